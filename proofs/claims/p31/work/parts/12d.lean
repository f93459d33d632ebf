theorem dX0_init_0 : decode cX0_init 0 = .ok (.aload_n 0, 1) := by decide +kernel
theorem dX0_init_1 : decode cX0_init 1 = .ok (.invokespecial 3, 3) := by decide +kernel
theorem dX0_init_4 : decode cX0_init 4 = .ok (.aload_n 0, 1) := by decide +kernel
theorem dX0_init_5 : decode cX0_init 5 = .ok (.iconst 4, 1) := by decide +kernel
theorem dX0_init_6 : decode cX0_init 6 = .ok (.newarray .int, 2) := by decide +kernel
theorem dX0_init_8 : decode cX0_init 8 = .ok (.putfield 9, 3) := by decide +kernel
theorem dX0_init_11 : decode cX0_init 11 = .ok (.aload_n 0, 1) := by decide +kernel
theorem dX0_init_12 : decode cX0_init 12 = .ok (.bipush 16, 2) := by decide +kernel
theorem dX0_init_14 : decode cX0_init 14 = .ok (.newarray .boolean, 2) := by decide +kernel
theorem dX0_init_16 : decode cX0_init 16 = .ok (.putfield 15, 3) := by decide +kernel
theorem dX0_init_19 : decode cX0_init 19 = .ok (.aload_n 0, 1) := by decide +kernel
theorem dX0_init_20 : decode cX0_init 20 = .ok (.bipush 32, 2) := by decide +kernel
theorem dX0_init_22 : decode cX0_init 22 = .ok (.newarray .int, 2) := by decide +kernel
theorem dX0_init_24 : decode cX0_init 24 = .ok (.putfield 19, 3) := by decide +kernel
theorem dX0_init_27 : decode cX0_init 27 = .ok (.aload_n 0, 1) := by decide +kernel
theorem dX0_init_28 : decode cX0_init 28 = .ok (.bipush 32, 2) := by decide +kernel
theorem dX0_init_30 : decode cX0_init 30 = .ok (.newarray .int, 2) := by decide +kernel
theorem dX0_init_32 : decode cX0_init 32 = .ok (.putfield 22, 3) := by decide +kernel
theorem dX0_init_35 : decode cX0_init 35 = .ok (.aload_n 0, 1) := by decide +kernel
theorem dX0_init_36 : decode cX0_init 36 = .ok (.bipush 16, 2) := by decide +kernel
theorem dX0_init_38 : decode cX0_init 38 = .ok (.newarray .int, 2) := by decide +kernel
theorem dX0_init_40 : decode cX0_init 40 = .ok (.putfield 25, 3) := by decide +kernel
theorem dX0_init_43 : decode cX0_init 43 = .ok (.aload_n 0, 1) := by decide +kernel
theorem dX0_init_44 : decode cX0_init 44 = .ok (.bipush 16, 2) := by decide +kernel
theorem dX0_init_46 : decode cX0_init 46 = .ok (.newarray .int, 2) := by decide +kernel
theorem dX0_init_48 : decode cX0_init 48 = .ok (.putfield 28, 3) := by decide +kernel
theorem dX0_init_51 : decode cX0_init 51 = .ok (.return_, 1) := by decide +kernel
theorem dX0_pagesOfSheet_0 : decode cX0_pagesOfSheet 0 = .ok (.iconst 1, 1) := by decide +kernel
theorem dX0_pagesOfSheet_1 : decode cX0_pagesOfSheet 1 = .ok (.aload_n 0, 1) := by decide +kernel
theorem dX0_pagesOfSheet_2 : decode cX0_pagesOfSheet 2 = .ok (.getfield 31, 3) := by decide +kernel
theorem dX0_pagesOfSheet_5 : decode cX0_pagesOfSheet 5 = .ok (.iconst 1, 1) := by decide +kernel
theorem dX0_pagesOfSheet_6 : decode cX0_pagesOfSheet 6 = .ok (.iadd, 1) := by decide +kernel
theorem dX0_pagesOfSheet_7 : decode cX0_pagesOfSheet 7 = .ok (.ishl, 1) := by decide +kernel
theorem dX0_pagesOfSheet_8 : decode cX0_pagesOfSheet 8 = .ok (.ireturn, 1) := by decide +kernel
theorem dX0_shiftOfSheet_0 : decode cX0_shiftOfSheet 0 = .ok (.aload_n 0, 1) := by decide +kernel
theorem dX0_shiftOfSheet_1 : decode cX0_shiftOfSheet 1 = .ok (.getfield 31, 3) := by decide +kernel
theorem dX0_shiftOfSheet_4 : decode cX0_shiftOfSheet 4 = .ok (.iconst 1, 1) := by decide +kernel
theorem dX0_shiftOfSheet_5 : decode cX0_shiftOfSheet 5 = .ok (.iadd, 1) := by decide +kernel
theorem dX0_shiftOfSheet_6 : decode cX0_shiftOfSheet 6 = .ok (.ireturn, 1) := by decide +kernel
theorem dX0_foldBy_0 : decode cX0_foldBy 0 = .ok (.aload_n 0, 1) := by decide +kernel
theorem dX0_foldBy_1 : decode cX0_foldBy 1 = .ok (.iload_n 1, 1) := by decide +kernel
theorem dX0_foldBy_2 : decode cX0_foldBy 2 = .ok (.putfield 31, 3) := by decide +kernel
theorem dX0_foldBy_5 : decode cX0_foldBy 5 = .ok (.aload_n 0, 1) := by decide +kernel
theorem dX0_foldBy_6 : decode cX0_foldBy 6 = .ok (.iconst 1, 1) := by decide +kernel
theorem dX0_foldBy_7 : decode cX0_foldBy 7 = .ok (.iload_n 1, 1) := by decide +kernel
theorem dX0_foldBy_8 : decode cX0_foldBy 8 = .ok (.ishl, 1) := by decide +kernel
theorem dX0_foldBy_9 : decode cX0_foldBy 9 = .ok (.putfield 35, 3) := by decide +kernel
theorem dX0_foldBy_12 : decode cX0_foldBy 12 = .ok (.aload_n 0, 1) := by decide +kernel
theorem dX0_foldBy_13 : decode cX0_foldBy 13 = .ok (.iconst 1, 1) := by decide +kernel
theorem dX0_foldBy_14 : decode cX0_foldBy 14 = .ok (.putfield 38, 3) := by decide +kernel
theorem dX0_foldBy_17 : decode cX0_foldBy 17 = .ok (.aload_n 0, 1) := by decide +kernel
theorem dX0_foldBy_18 : decode cX0_foldBy 18 = .ok (.iconst 1, 1) := by decide +kernel
theorem dX0_foldBy_19 : decode cX0_foldBy 19 = .ok (.putfield 41, 3) := by decide +kernel
theorem dX0_foldBy_22 : decode cX0_foldBy 22 = .ok (.iconst 0, 1) := by decide +kernel
theorem dX0_foldBy_23 : decode cX0_foldBy 23 = .ok (.istore_n 3, 1) := by decide +kernel
theorem dX0_foldBy_24 : decode cX0_foldBy 24 = .ok (.iload_n 3, 1) := by decide +kernel
theorem dX0_foldBy_25 : decode cX0_foldBy 25 = .ok (.aload_n 0, 1) := by decide +kernel
theorem dX0_foldBy_26 : decode cX0_foldBy 26 = .ok (.getfield 31, 3) := by decide +kernel
theorem dX0_foldBy_29 : decode cX0_foldBy 29 = .ok (.if_icmp .ge 57, 3) := by decide +kernel
theorem dX0_foldBy_32 : decode cX0_foldBy 32 = .ok (.aload_n 0, 1) := by decide +kernel
theorem dX0_foldBy_33 : decode cX0_foldBy 33 = .ok (.getfield 9, 3) := by decide +kernel
theorem dX0_foldBy_36 : decode cX0_foldBy 36 = .ok (.iload_n 3, 1) := by decide +kernel
theorem dX0_foldBy_37 : decode cX0_foldBy 37 = .ok (.iload_n 2, 1) := by decide +kernel
theorem dX0_foldBy_38 : decode cX0_foldBy 38 = .ok (.iconst 2, 1) := by decide +kernel
theorem dX0_foldBy_39 : decode cX0_foldBy 39 = .ok (.iload_n 3, 1) := by decide +kernel
theorem dX0_foldBy_40 : decode cX0_foldBy 40 = .ok (.imul, 1) := by decide +kernel
theorem dX0_foldBy_41 : decode cX0_foldBy 41 = .ok (.ishr, 1) := by decide +kernel
theorem dX0_foldBy_42 : decode cX0_foldBy 42 = .ok (.iconst 3, 1) := by decide +kernel
theorem dX0_foldBy_43 : decode cX0_foldBy 43 = .ok (.iand, 1) := by decide +kernel
theorem dX0_foldBy_44 : decode cX0_foldBy 44 = .ok (.iastore, 1) := by decide +kernel
theorem dX0_foldBy_45 : decode cX0_foldBy 45 = .ok (.aload_n 0, 1) := by decide +kernel
theorem dX0_foldBy_46 : decode cX0_foldBy 46 = .ok (.getfield 9, 3) := by decide +kernel
theorem dX0_foldBy_49 : decode cX0_foldBy 49 = .ok (.iload_n 3, 1) := by decide +kernel
theorem dX0_foldBy_50 : decode cX0_foldBy 50 = .ok (.iaload, 1) := by decide +kernel
theorem dX0_foldBy_51 : decode cX0_foldBy 51 = .ok (.invokestatic 44, 3) := by decide +kernel
theorem dX0_foldBy_54 : decode cX0_foldBy 54 = .ok (.ifCond .eq 16, 3) := by decide +kernel
theorem dX0_foldBy_57 : decode cX0_foldBy 57 = .ok (.aload_n 0, 1) := by decide +kernel
theorem dX0_foldBy_58 : decode cX0_foldBy 58 = .ok (.dup, 1) := by decide +kernel
theorem dX0_foldBy_59 : decode cX0_foldBy 59 = .ok (.getfield 41, 3) := by decide +kernel
theorem dX0_foldBy_62 : decode cX0_foldBy 62 = .ok (.iconst 2, 1) := by decide +kernel
theorem dX0_foldBy_63 : decode cX0_foldBy 63 = .ok (.imul, 1) := by decide +kernel
theorem dX0_foldBy_64 : decode cX0_foldBy 64 = .ok (.putfield 41, 3) := by decide +kernel
theorem dX0_foldBy_67 : decode cX0_foldBy 67 = .ok (.goto 13, 3) := by decide +kernel
theorem dX0_foldBy_70 : decode cX0_foldBy 70 = .ok (.aload_n 0, 1) := by decide +kernel
theorem dX0_foldBy_71 : decode cX0_foldBy 71 = .ok (.dup, 1) := by decide +kernel
theorem dX0_foldBy_72 : decode cX0_foldBy 72 = .ok (.getfield 38, 3) := by decide +kernel
theorem dX0_foldBy_75 : decode cX0_foldBy 75 = .ok (.iconst 2, 1) := by decide +kernel
theorem dX0_foldBy_76 : decode cX0_foldBy 76 = .ok (.imul, 1) := by decide +kernel
theorem dX0_foldBy_77 : decode cX0_foldBy 77 = .ok (.putfield 38, 3) := by decide +kernel
theorem dX0_foldBy_80 : decode cX0_foldBy 80 = .ok (.iinc 3 1, 3) := by decide +kernel
theorem dX0_foldBy_83 : decode cX0_foldBy 83 = .ok (.goto (-59), 3) := by decide +kernel
theorem dX0_foldBy_86 : decode cX0_foldBy 86 = .ok (.aload_n 0, 1) := by decide +kernel
theorem dX0_foldBy_87 : decode cX0_foldBy 87 = .ok (.invokevirtual 48, 3) := by decide +kernel
theorem dX0_foldBy_90 : decode cX0_foldBy 90 = .ok (.aload_n 0, 1) := by decide +kernel
theorem dX0_foldBy_91 : decode cX0_foldBy 91 = .ok (.invokevirtual 51, 3) := by decide +kernel
theorem dX0_foldBy_94 : decode cX0_foldBy 94 = .ok (.return_, 1) := by decide +kernel
theorem dX0_isSideways_0 : decode cX0_isSideways 0 = .ok (.iload_n 0, 1) := by decide +kernel
theorem dX0_isSideways_1 : decode cX0_isSideways 1 = .ok (.ifCond .eq 8, 3) := by decide +kernel
theorem dX0_isSideways_4 : decode cX0_isSideways 4 = .ok (.iload_n 0, 1) := by decide +kernel
theorem dX0_isSideways_5 : decode cX0_isSideways 5 = .ok (.iconst 1, 1) := by decide +kernel
theorem dX0_isSideways_6 : decode cX0_isSideways 6 = .ok (.if_icmp .ne 7, 3) := by decide +kernel
theorem dX0_isSideways_9 : decode cX0_isSideways 9 = .ok (.iconst 1, 1) := by decide +kernel
theorem dX0_isSideways_10 : decode cX0_isSideways 10 = .ok (.goto 4, 3) := by decide +kernel
theorem dX0_isSideways_13 : decode cX0_isSideways 13 = .ok (.iconst 0, 1) := by decide +kernel
theorem dX0_isSideways_14 : decode cX0_isSideways 14 = .ok (.ireturn, 1) := by decide +kernel
theorem dX0_foldFlatSheet_0 : decode cX0_foldFlatSheet 0 = .ok (.iconst 0, 1) := by decide +kernel
theorem dX0_foldFlatSheet_1 : decode cX0_foldFlatSheet 1 = .ok (.istore_n 1, 1) := by decide +kernel
theorem dX0_foldFlatSheet_2 : decode cX0_foldFlatSheet 2 = .ok (.iload_n 1, 1) := by decide +kernel
theorem dX0_foldFlatSheet_3 : decode cX0_foldFlatSheet 3 = .ok (.aload_n 0, 1) := by decide +kernel
theorem dX0_foldFlatSheet_4 : decode cX0_foldFlatSheet 4 = .ok (.getfield 35, 3) := by decide +kernel
theorem dX0_foldFlatSheet_7 : decode cX0_foldFlatSheet 7 = .ok (.if_icmp .ge 27, 3) := by decide +kernel
theorem dX0_foldFlatSheet_10 : decode cX0_foldFlatSheet 10 = .ok (.aload_n 0, 1) := by decide +kernel
theorem dX0_foldFlatSheet_11 : decode cX0_foldFlatSheet 11 = .ok (.getfield 25, 3) := by decide +kernel
theorem dX0_foldFlatSheet_14 : decode cX0_foldFlatSheet 14 = .ok (.iload_n 1, 1) := by decide +kernel
theorem dX0_foldFlatSheet_15 : decode cX0_foldFlatSheet 15 = .ok (.iload_n 1, 1) := by decide +kernel
theorem dX0_foldFlatSheet_16 : decode cX0_foldFlatSheet 16 = .ok (.iconst 0, 1) := by decide +kernel
theorem dX0_foldFlatSheet_17 : decode cX0_foldFlatSheet 17 = .ok (.invokestatic 54, 3) := by decide +kernel
theorem dX0_foldFlatSheet_20 : decode cX0_foldFlatSheet 20 = .ok (.iastore, 1) := by decide +kernel
theorem dX0_foldFlatSheet_21 : decode cX0_foldFlatSheet 21 = .ok (.aload_n 0, 1) := by decide +kernel
theorem dX0_foldFlatSheet_22 : decode cX0_foldFlatSheet 22 = .ok (.getfield 15, 3) := by decide +kernel
theorem dX0_foldFlatSheet_25 : decode cX0_foldFlatSheet 25 = .ok (.iload_n 1, 1) := by decide +kernel
theorem dX0_foldFlatSheet_26 : decode cX0_foldFlatSheet 26 = .ok (.iconst 0, 1) := by decide +kernel
theorem dX0_foldFlatSheet_27 : decode cX0_foldFlatSheet 27 = .ok (.bastore, 1) := by decide +kernel
theorem dX0_foldFlatSheet_28 : decode cX0_foldFlatSheet 28 = .ok (.iinc 1 1, 3) := by decide +kernel
theorem dX0_foldFlatSheet_31 : decode cX0_foldFlatSheet 31 = .ok (.goto (-29), 3) := by decide +kernel
theorem dX0_foldFlatSheet_34 : decode cX0_foldFlatSheet 34 = .ok (.aload_n 0, 1) := by decide +kernel
theorem dX0_foldFlatSheet_35 : decode cX0_foldFlatSheet 35 = .ok (.getfield 38, 3) := by decide +kernel
theorem dX0_foldFlatSheet_38 : decode cX0_foldFlatSheet 38 = .ok (.istore_n 1, 1) := by decide +kernel
theorem dX0_foldFlatSheet_39 : decode cX0_foldFlatSheet 39 = .ok (.aload_n 0, 1) := by decide +kernel
theorem dX0_foldFlatSheet_40 : decode cX0_foldFlatSheet 40 = .ok (.getfield 41, 3) := by decide +kernel
theorem dX0_foldFlatSheet_43 : decode cX0_foldFlatSheet 43 = .ok (.istore_n 2, 1) := by decide +kernel
theorem dX0_foldFlatSheet_44 : decode cX0_foldFlatSheet 44 = .ok (.iconst 1, 1) := by decide +kernel
theorem dX0_foldFlatSheet_45 : decode cX0_foldFlatSheet 45 = .ok (.istore_n 3, 1) := by decide +kernel
theorem dX0_foldFlatSheet_46 : decode cX0_foldFlatSheet 46 = .ok (.iconst 0, 1) := by decide +kernel
theorem dX0_foldFlatSheet_47 : decode cX0_foldFlatSheet 47 = .ok (.istore 4, 2) := by decide +kernel
theorem dX0_foldFlatSheet_49 : decode cX0_foldFlatSheet 49 = .ok (.iload 4, 2) := by decide +kernel
theorem dX0_foldFlatSheet_51 : decode cX0_foldFlatSheet 51 = .ok (.aload_n 0, 1) := by decide +kernel
theorem dX0_foldFlatSheet_52 : decode cX0_foldFlatSheet 52 = .ok (.getfield 31, 3) := by decide +kernel
theorem dX0_foldFlatSheet_55 : decode cX0_foldFlatSheet 55 = .ok (.if_icmp .ge 82, 3) := by decide +kernel
theorem dX0_foldFlatSheet_58 : decode cX0_foldFlatSheet 58 = .ok (.aload_n 0, 1) := by decide +kernel
theorem dX0_foldFlatSheet_59 : decode cX0_foldFlatSheet 59 = .ok (.getfield 9, 3) := by decide +kernel
theorem dX0_foldFlatSheet_62 : decode cX0_foldFlatSheet 62 = .ok (.iload 4, 2) := by decide +kernel
theorem dX0_foldFlatSheet_64 : decode cX0_foldFlatSheet 64 = .ok (.iaload, 1) := by decide +kernel
theorem dX0_foldFlatSheet_65 : decode cX0_foldFlatSheet 65 = .ok (.invokestatic 44, 3) := by decide +kernel
theorem dX0_foldFlatSheet_68 : decode cX0_foldFlatSheet 68 = .ok (.ifCond .eq 24, 3) := by decide +kernel
theorem dX0_foldFlatSheet_71 : decode cX0_foldFlatSheet 71 = .ok (.iload_n 2, 1) := by decide +kernel
theorem dX0_foldFlatSheet_72 : decode cX0_foldFlatSheet 72 = .ok (.iconst 2, 1) := by decide +kernel
theorem dX0_foldFlatSheet_73 : decode cX0_foldFlatSheet 73 = .ok (.idiv, 1) := by decide +kernel
theorem dX0_foldFlatSheet_74 : decode cX0_foldFlatSheet 74 = .ok (.istore_n 2, 1) := by decide +kernel
theorem dX0_foldFlatSheet_75 : decode cX0_foldFlatSheet 75 = .ok (.aload_n 0, 1) := by decide +kernel
theorem dX0_foldFlatSheet_76 : decode cX0_foldFlatSheet 76 = .ok (.aload_n 0, 1) := by decide +kernel
theorem dX0_foldFlatSheet_77 : decode cX0_foldFlatSheet 77 = .ok (.getfield 9, 3) := by decide +kernel
theorem dX0_foldFlatSheet_80 : decode cX0_foldFlatSheet 80 = .ok (.iload 4, 2) := by decide +kernel
theorem dX0_foldFlatSheet_82 : decode cX0_foldFlatSheet 82 = .ok (.iaload, 1) := by decide +kernel
theorem dX0_foldFlatSheet_83 : decode cX0_foldFlatSheet 83 = .ok (.iload_n 1, 1) := by decide +kernel
theorem dX0_foldFlatSheet_84 : decode cX0_foldFlatSheet 84 = .ok (.iload_n 2, 1) := by decide +kernel
theorem dX0_foldFlatSheet_85 : decode cX0_foldFlatSheet 85 = .ok (.iload_n 3, 1) := by decide +kernel
theorem dX0_foldFlatSheet_86 : decode cX0_foldFlatSheet 86 = .ok (.invokevirtual 58, 3) := by decide +kernel
theorem dX0_foldFlatSheet_89 : decode cX0_foldFlatSheet 89 = .ok (.goto 21, 3) := by decide +kernel
theorem dX0_foldFlatSheet_92 : decode cX0_foldFlatSheet 92 = .ok (.iload_n 1, 1) := by decide +kernel
theorem dX0_foldFlatSheet_93 : decode cX0_foldFlatSheet 93 = .ok (.iconst 2, 1) := by decide +kernel
theorem dX0_foldFlatSheet_94 : decode cX0_foldFlatSheet 94 = .ok (.idiv, 1) := by decide +kernel
theorem dX0_foldFlatSheet_95 : decode cX0_foldFlatSheet 95 = .ok (.istore_n 1, 1) := by decide +kernel
theorem dX0_foldFlatSheet_96 : decode cX0_foldFlatSheet 96 = .ok (.aload_n 0, 1) := by decide +kernel
theorem dX0_foldFlatSheet_97 : decode cX0_foldFlatSheet 97 = .ok (.aload_n 0, 1) := by decide +kernel
theorem dX0_foldFlatSheet_98 : decode cX0_foldFlatSheet 98 = .ok (.getfield 9, 3) := by decide +kernel
theorem dX0_foldFlatSheet_101 : decode cX0_foldFlatSheet 101 = .ok (.iload 4, 2) := by decide +kernel
theorem dX0_foldFlatSheet_103 : decode cX0_foldFlatSheet 103 = .ok (.iaload, 1) := by decide +kernel
theorem dX0_foldFlatSheet_104 : decode cX0_foldFlatSheet 104 = .ok (.iload_n 1, 1) := by decide +kernel
theorem dX0_foldFlatSheet_105 : decode cX0_foldFlatSheet 105 = .ok (.iload_n 2, 1) := by decide +kernel
theorem dX0_foldFlatSheet_106 : decode cX0_foldFlatSheet 106 = .ok (.iload_n 3, 1) := by decide +kernel
theorem dX0_foldFlatSheet_107 : decode cX0_foldFlatSheet 107 = .ok (.invokevirtual 62, 3) := by decide +kernel
theorem dX0_foldFlatSheet_110 : decode cX0_foldFlatSheet 110 = .ok (.iload_n 3, 1) := by decide +kernel
theorem dX0_foldFlatSheet_111 : decode cX0_foldFlatSheet 111 = .ok (.iconst 2, 1) := by decide +kernel
theorem dX0_foldFlatSheet_112 : decode cX0_foldFlatSheet 112 = .ok (.imul, 1) := by decide +kernel
theorem dX0_foldFlatSheet_113 : decode cX0_foldFlatSheet 113 = .ok (.istore_n 3, 1) := by decide +kernel
theorem dX0_foldFlatSheet_114 : decode cX0_foldFlatSheet 114 = .ok (.aload_n 0, 1) := by decide +kernel
theorem dX0_foldFlatSheet_115 : decode cX0_foldFlatSheet 115 = .ok (.getfield 28, 3) := by decide +kernel
theorem dX0_foldFlatSheet_118 : decode cX0_foldFlatSheet 118 = .ok (.iconst 0, 1) := by decide +kernel
theorem dX0_foldFlatSheet_119 : decode cX0_foldFlatSheet 119 = .ok (.aload_n 0, 1) := by decide +kernel
theorem dX0_foldFlatSheet_120 : decode cX0_foldFlatSheet 120 = .ok (.getfield 25, 3) := by decide +kernel
theorem dX0_foldFlatSheet_123 : decode cX0_foldFlatSheet 123 = .ok (.iconst 0, 1) := by decide +kernel
theorem dX0_foldFlatSheet_124 : decode cX0_foldFlatSheet 124 = .ok (.aload_n 0, 1) := by decide +kernel
theorem dX0_foldFlatSheet_125 : decode cX0_foldFlatSheet 125 = .ok (.getfield 35, 3) := by decide +kernel
theorem dX0_foldFlatSheet_128 : decode cX0_foldFlatSheet 128 = .ok (.invokestatic 65, 3) := by decide +kernel
theorem dX0_foldFlatSheet_131 : decode cX0_foldFlatSheet 131 = .ok (.iinc 4 1, 3) := by decide +kernel
theorem dX0_foldFlatSheet_134 : decode cX0_foldFlatSheet 134 = .ok (.goto (-85), 3) := by decide +kernel
theorem dX0_foldFlatSheet_137 : decode cX0_foldFlatSheet 137 = .ok (.return_, 1) := by decide +kernel
theorem dX0_foldSideways_0 : decode cX0_foldSideways 0 = .ok (.iconst 0, 1) := by decide +kernel
theorem dX0_foldSideways_1 : decode cX0_foldSideways 1 = .ok (.istore 5, 2) := by decide +kernel
theorem dX0_foldSideways_3 : decode cX0_foldSideways 3 = .ok (.iload 5, 2) := by decide +kernel
theorem dX0_foldSideways_5 : decode cX0_foldSideways 5 = .ok (.iload_n 2, 1) := by decide +kernel
theorem dX0_foldSideways_6 : decode cX0_foldSideways 6 = .ok (.if_icmp .ge 81, 3) := by decide +kernel
theorem dX0_foldSideways_9 : decode cX0_foldSideways 9 = .ok (.iconst 0, 1) := by decide +kernel
theorem dX0_foldSideways_10 : decode cX0_foldSideways 10 = .ok (.istore 6, 2) := by decide +kernel
theorem dX0_foldSideways_12 : decode cX0_foldSideways 12 = .ok (.iload 6, 2) := by decide +kernel
theorem dX0_foldSideways_14 : decode cX0_foldSideways 14 = .ok (.iload_n 3, 1) := by decide +kernel
theorem dX0_foldSideways_15 : decode cX0_foldSideways 15 = .ok (.if_icmp .ge 66, 3) := by decide +kernel
theorem dX0_foldSideways_18 : decode cX0_foldSideways 18 = .ok (.iload_n 1, 1) := by decide +kernel
theorem dX0_foldSideways_19 : decode cX0_foldSideways 19 = .ok (.iconst 1, 1) := by decide +kernel
theorem dX0_foldSideways_20 : decode cX0_foldSideways 20 = .ok (.if_icmp .ne 10, 3) := by decide +kernel
theorem dX0_foldSideways_23 : decode cX0_foldSideways 23 = .ok (.iload_n 3, 1) := by decide +kernel
theorem dX0_foldSideways_24 : decode cX0_foldSideways 24 = .ok (.iload 6, 2) := by decide +kernel
theorem dX0_foldSideways_26 : decode cX0_foldSideways 26 = .ok (.iadd, 1) := by decide +kernel
theorem dX0_foldSideways_27 : decode cX0_foldSideways 27 = .ok (.goto 5, 3) := by decide +kernel
theorem dX0_foldSideways_30 : decode cX0_foldSideways 30 = .ok (.iload 6, 2) := by decide +kernel
theorem dX0_foldSideways_32 : decode cX0_foldSideways 32 = .ok (.istore 7, 2) := by decide +kernel
theorem dX0_foldSideways_34 : decode cX0_foldSideways 34 = .ok (.iconst 2, 1) := by decide +kernel
theorem dX0_foldSideways_35 : decode cX0_foldSideways 35 = .ok (.iload_n 3, 1) := by decide +kernel
theorem dX0_foldSideways_36 : decode cX0_foldSideways 36 = .ok (.imul, 1) := by decide +kernel
theorem dX0_foldSideways_37 : decode cX0_foldSideways 37 = .ok (.iconst 1, 1) := by decide +kernel
theorem dX0_foldSideways_38 : decode cX0_foldSideways 38 = .ok (.isub, 1) := by decide +kernel
theorem dX0_foldSideways_39 : decode cX0_foldSideways 39 = .ok (.iload 7, 2) := by decide +kernel
theorem dX0_foldSideways_41 : decode cX0_foldSideways 41 = .ok (.isub, 1) := by decide +kernel
theorem dX0_foldSideways_42 : decode cX0_foldSideways 42 = .ok (.istore 8, 2) := by decide +kernel
theorem dX0_foldSideways_44 : decode cX0_foldSideways 44 = .ok (.iload 5, 2) := by decide +kernel
theorem dX0_foldSideways_46 : decode cX0_foldSideways 46 = .ok (.iconst 2, 1) := by decide +kernel
theorem dX0_foldSideways_47 : decode cX0_foldSideways 47 = .ok (.imul, 1) := by decide +kernel
theorem dX0_foldSideways_48 : decode cX0_foldSideways 48 = .ok (.iload_n 3, 1) := by decide +kernel
theorem dX0_foldSideways_49 : decode cX0_foldSideways 49 = .ok (.imul, 1) := by decide +kernel
theorem dX0_foldSideways_50 : decode cX0_foldSideways 50 = .ok (.istore 9, 2) := by decide +kernel
theorem dX0_foldSideways_52 : decode cX0_foldSideways 52 = .ok (.aload_n 0, 1) := by decide +kernel
theorem dX0_foldSideways_53 : decode cX0_foldSideways 53 = .ok (.iload 5, 2) := by decide +kernel
theorem dX0_foldSideways_55 : decode cX0_foldSideways 55 = .ok (.iload_n 3, 1) := by decide +kernel
theorem dX0_foldSideways_56 : decode cX0_foldSideways 56 = .ok (.imul, 1) := by decide +kernel
theorem dX0_foldSideways_57 : decode cX0_foldSideways 57 = .ok (.iload 6, 2) := by decide +kernel
theorem dX0_foldSideways_59 : decode cX0_foldSideways 59 = .ok (.iadd, 1) := by decide +kernel
theorem dX0_foldSideways_60 : decode cX0_foldSideways 60 = .ok (.iload 9, 2) := by decide +kernel
theorem dX0_foldSideways_62 : decode cX0_foldSideways 62 = .ok (.iload 7, 2) := by decide +kernel
theorem dX0_foldSideways_64 : decode cX0_foldSideways 64 = .ok (.iadd, 1) := by decide +kernel
theorem dX0_foldSideways_65 : decode cX0_foldSideways 65 = .ok (.iload 9, 2) := by decide +kernel
theorem dX0_foldSideways_67 : decode cX0_foldSideways 67 = .ok (.iload 8, 2) := by decide +kernel
theorem dX0_foldSideways_69 : decode cX0_foldSideways 69 = .ok (.iadd, 1) := by decide +kernel
theorem dX0_foldSideways_70 : decode cX0_foldSideways 70 = .ok (.iload 4, 2) := by decide +kernel
theorem dX0_foldSideways_72 : decode cX0_foldSideways 72 = .ok (.invokevirtual 71, 3) := by decide +kernel
theorem dX0_foldSideways_75 : decode cX0_foldSideways 75 = .ok (.iinc 6 1, 3) := by decide +kernel
theorem dX0_foldSideways_78 : decode cX0_foldSideways 78 = .ok (.goto (-66), 3) := by decide +kernel
theorem dX0_foldSideways_81 : decode cX0_foldSideways 81 = .ok (.iinc 5 1, 3) := by decide +kernel
theorem dX0_foldSideways_84 : decode cX0_foldSideways 84 = .ok (.goto (-81), 3) := by decide +kernel
theorem dX0_foldSideways_87 : decode cX0_foldSideways 87 = .ok (.return_, 1) := by decide +kernel
theorem dX0_foldUpOrDown_0 : decode cX0_foldUpOrDown 0 = .ok (.iconst 0, 1) := by decide +kernel
theorem dX0_foldUpOrDown_1 : decode cX0_foldUpOrDown 1 = .ok (.istore 5, 2) := by decide +kernel
theorem dX0_foldUpOrDown_3 : decode cX0_foldUpOrDown 3 = .ok (.iload 5, 2) := by decide +kernel
theorem dX0_foldUpOrDown_5 : decode cX0_foldUpOrDown 5 = .ok (.iload_n 2, 1) := by decide +kernel
theorem dX0_foldUpOrDown_6 : decode cX0_foldUpOrDown 6 = .ok (.if_icmp .ge 89, 3) := by decide +kernel
theorem dX0_foldUpOrDown_9 : decode cX0_foldUpOrDown 9 = .ok (.iload_n 1, 1) := by decide +kernel
theorem dX0_foldUpOrDown_10 : decode cX0_foldUpOrDown 10 = .ok (.iconst 3, 1) := by decide +kernel
theorem dX0_foldUpOrDown_11 : decode cX0_foldUpOrDown 11 = .ok (.if_icmp .ne 10, 3) := by decide +kernel
theorem dX0_foldUpOrDown_14 : decode cX0_foldUpOrDown 14 = .ok (.iload_n 2, 1) := by decide +kernel
theorem dX0_foldUpOrDown_15 : decode cX0_foldUpOrDown 15 = .ok (.iload 5, 2) := by decide +kernel
theorem dX0_foldUpOrDown_17 : decode cX0_foldUpOrDown 17 = .ok (.iadd, 1) := by decide +kernel
theorem dX0_foldUpOrDown_18 : decode cX0_foldUpOrDown 18 = .ok (.goto 5, 3) := by decide +kernel
theorem dX0_foldUpOrDown_21 : decode cX0_foldUpOrDown 21 = .ok (.iload 5, 2) := by decide +kernel
theorem dX0_foldUpOrDown_23 : decode cX0_foldUpOrDown 23 = .ok (.istore 6, 2) := by decide +kernel
theorem dX0_foldUpOrDown_25 : decode cX0_foldUpOrDown 25 = .ok (.iconst 2, 1) := by decide +kernel
theorem dX0_foldUpOrDown_26 : decode cX0_foldUpOrDown 26 = .ok (.iload_n 2, 1) := by decide +kernel
theorem dX0_foldUpOrDown_27 : decode cX0_foldUpOrDown 27 = .ok (.imul, 1) := by decide +kernel
theorem dX0_foldUpOrDown_28 : decode cX0_foldUpOrDown 28 = .ok (.iconst 1, 1) := by decide +kernel
theorem dX0_foldUpOrDown_29 : decode cX0_foldUpOrDown 29 = .ok (.isub, 1) := by decide +kernel
theorem dX0_foldUpOrDown_30 : decode cX0_foldUpOrDown 30 = .ok (.iload 6, 2) := by decide +kernel
theorem dX0_foldUpOrDown_32 : decode cX0_foldUpOrDown 32 = .ok (.isub, 1) := by decide +kernel
theorem dX0_foldUpOrDown_33 : decode cX0_foldUpOrDown 33 = .ok (.istore 7, 2) := by decide +kernel
theorem dX0_foldUpOrDown_35 : decode cX0_foldUpOrDown 35 = .ok (.iconst 0, 1) := by decide +kernel
theorem dX0_foldUpOrDown_36 : decode cX0_foldUpOrDown 36 = .ok (.istore 8, 2) := by decide +kernel
theorem dX0_foldUpOrDown_38 : decode cX0_foldUpOrDown 38 = .ok (.iload 8, 2) := by decide +kernel
theorem dX0_foldUpOrDown_40 : decode cX0_foldUpOrDown 40 = .ok (.iload_n 3, 1) := by decide +kernel
theorem dX0_foldUpOrDown_41 : decode cX0_foldUpOrDown 41 = .ok (.if_icmp .ge 48, 3) := by decide +kernel
theorem dX0_foldUpOrDown_44 : decode cX0_foldUpOrDown 44 = .ok (.iload 7, 2) := by decide +kernel
theorem dX0_foldUpOrDown_46 : decode cX0_foldUpOrDown 46 = .ok (.iload_n 3, 1) := by decide +kernel
theorem dX0_foldUpOrDown_47 : decode cX0_foldUpOrDown 47 = .ok (.imul, 1) := by decide +kernel
theorem dX0_foldUpOrDown_48 : decode cX0_foldUpOrDown 48 = .ok (.iload 8, 2) := by decide +kernel
theorem dX0_foldUpOrDown_50 : decode cX0_foldUpOrDown 50 = .ok (.iadd, 1) := by decide +kernel
theorem dX0_foldUpOrDown_51 : decode cX0_foldUpOrDown 51 = .ok (.istore 9, 2) := by decide +kernel
theorem dX0_foldUpOrDown_53 : decode cX0_foldUpOrDown 53 = .ok (.aload_n 0, 1) := by decide +kernel
theorem dX0_foldUpOrDown_54 : decode cX0_foldUpOrDown 54 = .ok (.iload 9, 2) := by decide +kernel
theorem dX0_foldUpOrDown_56 : decode cX0_foldUpOrDown 56 = .ok (.iload 4, 2) := by decide +kernel
theorem dX0_foldUpOrDown_58 : decode cX0_foldUpOrDown 58 = .ok (.invokevirtual 74, 3) := by decide +kernel
theorem dX0_foldUpOrDown_61 : decode cX0_foldUpOrDown 61 = .ok (.aload_n 0, 1) := by decide +kernel
theorem dX0_foldUpOrDown_62 : decode cX0_foldUpOrDown 62 = .ok (.iload 5, 2) := by decide +kernel
theorem dX0_foldUpOrDown_64 : decode cX0_foldUpOrDown 64 = .ok (.iload_n 3, 1) := by decide +kernel
theorem dX0_foldUpOrDown_65 : decode cX0_foldUpOrDown 65 = .ok (.imul, 1) := by decide +kernel
theorem dX0_foldUpOrDown_66 : decode cX0_foldUpOrDown 66 = .ok (.iload 8, 2) := by decide +kernel
theorem dX0_foldUpOrDown_68 : decode cX0_foldUpOrDown 68 = .ok (.iadd, 1) := by decide +kernel
theorem dX0_foldUpOrDown_69 : decode cX0_foldUpOrDown 69 = .ok (.iload 6, 2) := by decide +kernel
theorem dX0_foldUpOrDown_71 : decode cX0_foldUpOrDown 71 = .ok (.iload_n 3, 1) := by decide +kernel
theorem dX0_foldUpOrDown_72 : decode cX0_foldUpOrDown 72 = .ok (.imul, 1) := by decide +kernel
theorem dX0_foldUpOrDown_73 : decode cX0_foldUpOrDown 73 = .ok (.iload 8, 2) := by decide +kernel
theorem dX0_foldUpOrDown_75 : decode cX0_foldUpOrDown 75 = .ok (.iadd, 1) := by decide +kernel
theorem dX0_foldUpOrDown_76 : decode cX0_foldUpOrDown 76 = .ok (.iload 9, 2) := by decide +kernel
theorem dX0_foldUpOrDown_78 : decode cX0_foldUpOrDown 78 = .ok (.iload 4, 2) := by decide +kernel
theorem dX0_foldUpOrDown_80 : decode cX0_foldUpOrDown 80 = .ok (.invokevirtual 71, 3) := by decide +kernel
theorem dX0_foldUpOrDown_83 : decode cX0_foldUpOrDown 83 = .ok (.iinc 8 1, 3) := by decide +kernel
theorem dX0_foldUpOrDown_86 : decode cX0_foldUpOrDown 86 = .ok (.goto (-48), 3) := by decide +kernel
theorem dX0_foldUpOrDown_89 : decode cX0_foldUpOrDown 89 = .ok (.iinc 5 1, 3) := by decide +kernel
theorem dX0_foldUpOrDown_92 : decode cX0_foldUpOrDown 92 = .ok (.goto (-89), 3) := by decide +kernel
theorem dX0_foldUpOrDown_95 : decode cX0_foldUpOrDown 95 = .ok (.return_, 1) := by decide +kernel
theorem dX0_turnLeaves_0 : decode cX0_turnLeaves 0 = .ok (.iconst 0, 1) := by decide +kernel
theorem dX0_turnLeaves_1 : decode cX0_turnLeaves 1 = .ok (.istore_n 3, 1) := by decide +kernel
theorem dX0_turnLeaves_2 : decode cX0_turnLeaves 2 = .ok (.iload_n 3, 1) := by decide +kernel
theorem dX0_turnLeaves_3 : decode cX0_turnLeaves 3 = .ok (.iload_n 2, 1) := by decide +kernel
theorem dX0_turnLeaves_4 : decode cX0_turnLeaves 4 = .ok (.if_icmp .ge 46, 3) := by decide +kernel
theorem dX0_turnLeaves_7 : decode cX0_turnLeaves 7 = .ok (.aload_n 0, 1) := by decide +kernel
theorem dX0_turnLeaves_8 : decode cX0_turnLeaves 8 = .ok (.getfield 25, 3) := by decide +kernel
theorem dX0_turnLeaves_11 : decode cX0_turnLeaves 11 = .ok (.iload_n 1, 1) := by decide +kernel
theorem dX0_turnLeaves_12 : decode cX0_turnLeaves 12 = .ok (.iload_n 2, 1) := by decide +kernel
theorem dX0_turnLeaves_13 : decode cX0_turnLeaves 13 = .ok (.imul, 1) := by decide +kernel
theorem dX0_turnLeaves_14 : decode cX0_turnLeaves 14 = .ok (.iload_n 3, 1) := by decide +kernel
theorem dX0_turnLeaves_15 : decode cX0_turnLeaves 15 = .ok (.iadd, 1) := by decide +kernel
theorem dX0_turnLeaves_16 : decode cX0_turnLeaves 16 = .ok (.iaload, 1) := by decide +kernel
theorem dX0_turnLeaves_17 : decode cX0_turnLeaves 17 = .ok (.invokestatic 78, 3) := by decide +kernel
theorem dX0_turnLeaves_20 : decode cX0_turnLeaves 20 = .ok (.istore 4, 2) := by decide +kernel
theorem dX0_turnLeaves_22 : decode cX0_turnLeaves 22 = .ok (.aload_n 0, 1) := by decide +kernel
theorem dX0_turnLeaves_23 : decode cX0_turnLeaves 23 = .ok (.getfield 15, 3) := by decide +kernel
theorem dX0_turnLeaves_26 : decode cX0_turnLeaves 26 = .ok (.iload 4, 2) := by decide +kernel
theorem dX0_turnLeaves_28 : decode cX0_turnLeaves 28 = .ok (.aload_n 0, 1) := by decide +kernel
theorem dX0_turnLeaves_29 : decode cX0_turnLeaves 29 = .ok (.getfield 15, 3) := by decide +kernel
theorem dX0_turnLeaves_32 : decode cX0_turnLeaves 32 = .ok (.iload 4, 2) := by decide +kernel
theorem dX0_turnLeaves_34 : decode cX0_turnLeaves 34 = .ok (.baload, 1) := by decide +kernel
theorem dX0_turnLeaves_35 : decode cX0_turnLeaves 35 = .ok (.ifCond .ne 7, 3) := by decide +kernel
theorem dX0_turnLeaves_38 : decode cX0_turnLeaves 38 = .ok (.iconst 1, 1) := by decide +kernel
theorem dX0_turnLeaves_39 : decode cX0_turnLeaves 39 = .ok (.goto 4, 3) := by decide +kernel
theorem dX0_turnLeaves_42 : decode cX0_turnLeaves 42 = .ok (.iconst 0, 1) := by decide +kernel
theorem dX0_turnLeaves_43 : decode cX0_turnLeaves 43 = .ok (.bastore, 1) := by decide +kernel
theorem dX0_turnLeaves_44 : decode cX0_turnLeaves 44 = .ok (.iinc 3 1, 3) := by decide +kernel
theorem dX0_turnLeaves_47 : decode cX0_turnLeaves 47 = .ok (.goto (-45), 3) := by decide +kernel
theorem dX0_turnLeaves_50 : decode cX0_turnLeaves 50 = .ok (.return_, 1) := by decide +kernel
theorem dX0_layOver_0 : decode cX0_layOver 0 = .ok (.iload_n 1, 1) := by decide +kernel
theorem dX0_layOver_1 : decode cX0_layOver 1 = .ok (.iconst 2, 1) := by decide +kernel
theorem dX0_layOver_2 : decode cX0_layOver 2 = .ok (.imul, 1) := by decide +kernel
theorem dX0_layOver_3 : decode cX0_layOver 3 = .ok (.iload 4, 2) := by decide +kernel
theorem dX0_layOver_5 : decode cX0_layOver 5 = .ok (.imul, 1) := by decide +kernel
theorem dX0_layOver_6 : decode cX0_layOver 6 = .ok (.istore 5, 2) := by decide +kernel
theorem dX0_layOver_8 : decode cX0_layOver 8 = .ok (.iconst 0, 1) := by decide +kernel
theorem dX0_layOver_9 : decode cX0_layOver 9 = .ok (.istore 6, 2) := by decide +kernel
theorem dX0_layOver_11 : decode cX0_layOver 11 = .ok (.iload 6, 2) := by decide +kernel
theorem dX0_layOver_13 : decode cX0_layOver 13 = .ok (.iload 4, 2) := by decide +kernel
theorem dX0_layOver_15 : decode cX0_layOver 15 = .ok (.if_icmp .ge 78, 3) := by decide +kernel
theorem dX0_layOver_18 : decode cX0_layOver 18 = .ok (.aload_n 0, 1) := by decide +kernel
theorem dX0_layOver_19 : decode cX0_layOver 19 = .ok (.getfield 28, 3) := by decide +kernel
theorem dX0_layOver_22 : decode cX0_layOver 22 = .ok (.iload 5, 2) := by decide +kernel
theorem dX0_layOver_24 : decode cX0_layOver 24 = .ok (.iload 6, 2) := by decide +kernel
theorem dX0_layOver_26 : decode cX0_layOver 26 = .ok (.iadd, 1) := by decide +kernel
theorem dX0_layOver_27 : decode cX0_layOver 27 = .ok (.aload_n 0, 1) := by decide +kernel
theorem dX0_layOver_28 : decode cX0_layOver 28 = .ok (.getfield 25, 3) := by decide +kernel
theorem dX0_layOver_31 : decode cX0_layOver 31 = .ok (.iload_n 2, 1) := by decide +kernel
theorem dX0_layOver_32 : decode cX0_layOver 32 = .ok (.iload 4, 2) := by decide +kernel
theorem dX0_layOver_34 : decode cX0_layOver 34 = .ok (.imul, 1) := by decide +kernel
theorem dX0_layOver_35 : decode cX0_layOver 35 = .ok (.iload 6, 2) := by decide +kernel
theorem dX0_layOver_37 : decode cX0_layOver 37 = .ok (.iadd, 1) := by decide +kernel
theorem dX0_layOver_38 : decode cX0_layOver 38 = .ok (.iaload, 1) := by decide +kernel
theorem dX0_layOver_39 : decode cX0_layOver 39 = .ok (.iastore, 1) := by decide +kernel
theorem dX0_layOver_40 : decode cX0_layOver 40 = .ok (.aload_n 0, 1) := by decide +kernel
theorem dX0_layOver_41 : decode cX0_layOver 41 = .ok (.getfield 25, 3) := by decide +kernel
theorem dX0_layOver_44 : decode cX0_layOver 44 = .ok (.iload_n 3, 1) := by decide +kernel
theorem dX0_layOver_45 : decode cX0_layOver 45 = .ok (.iload 4, 2) := by decide +kernel
theorem dX0_layOver_47 : decode cX0_layOver 47 = .ok (.imul, 1) := by decide +kernel
theorem dX0_layOver_48 : decode cX0_layOver 48 = .ok (.iload 4, 2) := by decide +kernel
theorem dX0_layOver_50 : decode cX0_layOver 50 = .ok (.iadd, 1) := by decide +kernel
theorem dX0_layOver_51 : decode cX0_layOver 51 = .ok (.iconst 1, 1) := by decide +kernel
theorem dX0_layOver_52 : decode cX0_layOver 52 = .ok (.isub, 1) := by decide +kernel
theorem dX0_layOver_53 : decode cX0_layOver 53 = .ok (.iload 6, 2) := by decide +kernel
theorem dX0_layOver_55 : decode cX0_layOver 55 = .ok (.isub, 1) := by decide +kernel
theorem dX0_layOver_56 : decode cX0_layOver 56 = .ok (.iaload, 1) := by decide +kernel
theorem dX0_layOver_57 : decode cX0_layOver 57 = .ok (.istore 7, 2) := by decide +kernel
theorem dX0_layOver_59 : decode cX0_layOver 59 = .ok (.aload_n 0, 1) := by decide +kernel
theorem dX0_layOver_60 : decode cX0_layOver 60 = .ok (.getfield 28, 3) := by decide +kernel
theorem dX0_layOver_63 : decode cX0_layOver 63 = .ok (.iload 5, 2) := by decide +kernel
theorem dX0_layOver_65 : decode cX0_layOver 65 = .ok (.iload 4, 2) := by decide +kernel
theorem dX0_layOver_67 : decode cX0_layOver 67 = .ok (.iadd, 1) := by decide +kernel
theorem dX0_layOver_68 : decode cX0_layOver 68 = .ok (.iload 6, 2) := by decide +kernel
theorem dX0_layOver_70 : decode cX0_layOver 70 = .ok (.iadd, 1) := by decide +kernel
theorem dX0_layOver_71 : decode cX0_layOver 71 = .ok (.iload 7, 2) := by decide +kernel
theorem dX0_layOver_73 : decode cX0_layOver 73 = .ok (.invokestatic 78, 3) := by decide +kernel
theorem dX0_layOver_76 : decode cX0_layOver 76 = .ok (.iconst 1, 1) := by decide +kernel
theorem dX0_layOver_77 : decode cX0_layOver 77 = .ok (.iload 7, 2) := by decide +kernel
theorem dX0_layOver_79 : decode cX0_layOver 79 = .ok (.invokestatic 82, 3) := by decide +kernel
theorem dX0_layOver_82 : decode cX0_layOver 82 = .ok (.isub, 1) := by decide +kernel
theorem dX0_layOver_83 : decode cX0_layOver 83 = .ok (.invokestatic 54, 3) := by decide +kernel
theorem dX0_layOver_86 : decode cX0_layOver 86 = .ok (.iastore, 1) := by decide +kernel
theorem dX0_layOver_87 : decode cX0_layOver 87 = .ok (.iinc 6 1, 3) := by decide +kernel
theorem dX0_layOver_90 : decode cX0_layOver 90 = .ok (.goto (-79), 3) := by decide +kernel
theorem dX0_layOver_93 : decode cX0_layOver 93 = .ok (.return_, 1) := by decide +kernel
theorem dX0_readPile_0 : decode cX0_readPile 0 = .ok (.iconst 0, 1) := by decide +kernel
theorem dX0_readPile_1 : decode cX0_readPile 1 = .ok (.istore_n 1, 1) := by decide +kernel
theorem dX0_readPile_2 : decode cX0_readPile 2 = .ok (.aload_n 0, 1) := by decide +kernel
theorem dX0_readPile_3 : decode cX0_readPile 3 = .ok (.getfield 35, 3) := by decide +kernel
theorem dX0_readPile_6 : decode cX0_readPile 6 = .ok (.iconst 1, 1) := by decide +kernel
theorem dX0_readPile_7 : decode cX0_readPile 7 = .ok (.isub, 1) := by decide +kernel
theorem dX0_readPile_8 : decode cX0_readPile 8 = .ok (.istore_n 2, 1) := by decide +kernel
theorem dX0_readPile_9 : decode cX0_readPile 9 = .ok (.iload_n 2, 1) := by decide +kernel
theorem dX0_readPile_10 : decode cX0_readPile 10 = .ok (.ifCond .lt 68, 3) := by decide +kernel
theorem dX0_readPile_13 : decode cX0_readPile 13 = .ok (.aload_n 0, 1) := by decide +kernel
theorem dX0_readPile_14 : decode cX0_readPile 14 = .ok (.getfield 25, 3) := by decide +kernel
theorem dX0_readPile_17 : decode cX0_readPile 17 = .ok (.iload_n 2, 1) := by decide +kernel
theorem dX0_readPile_18 : decode cX0_readPile 18 = .ok (.iaload, 1) := by decide +kernel
theorem dX0_readPile_19 : decode cX0_readPile 19 = .ok (.istore_n 3, 1) := by decide +kernel
theorem dX0_readPile_20 : decode cX0_readPile 20 = .ok (.iload_n 3, 1) := by decide +kernel
theorem dX0_readPile_21 : decode cX0_readPile 21 = .ok (.invokestatic 78, 3) := by decide +kernel
theorem dX0_readPile_24 : decode cX0_readPile 24 = .ok (.iconst 1, 1) := by decide +kernel
theorem dX0_readPile_25 : decode cX0_readPile 25 = .ok (.iload_n 3, 1) := by decide +kernel
theorem dX0_readPile_26 : decode cX0_readPile 26 = .ok (.invokestatic 82, 3) := by decide +kernel
theorem dX0_readPile_29 : decode cX0_readPile 29 = .ok (.isub, 1) := by decide +kernel
theorem dX0_readPile_30 : decode cX0_readPile 30 = .ok (.invokestatic 54, 3) := by decide +kernel
theorem dX0_readPile_33 : decode cX0_readPile 33 = .ok (.istore 4, 2) := by decide +kernel
theorem dX0_readPile_35 : decode cX0_readPile 35 = .ok (.aload_n 0, 1) := by decide +kernel
theorem dX0_readPile_36 : decode cX0_readPile 36 = .ok (.getfield 22, 3) := by decide +kernel
theorem dX0_readPile_39 : decode cX0_readPile 39 = .ok (.iload_n 1, 1) := by decide +kernel
theorem dX0_readPile_40 : decode cX0_readPile 40 = .ok (.iload_n 3, 1) := by decide +kernel
theorem dX0_readPile_41 : decode cX0_readPile 41 = .ok (.iastore, 1) := by decide +kernel
theorem dX0_readPile_42 : decode cX0_readPile 42 = .ok (.aload_n 0, 1) := by decide +kernel
theorem dX0_readPile_43 : decode cX0_readPile 43 = .ok (.getfield 22, 3) := by decide +kernel
theorem dX0_readPile_46 : decode cX0_readPile 46 = .ok (.iload_n 1, 1) := by decide +kernel
theorem dX0_readPile_47 : decode cX0_readPile 47 = .ok (.iconst 1, 1) := by decide +kernel
theorem dX0_readPile_48 : decode cX0_readPile 48 = .ok (.iadd, 1) := by decide +kernel
theorem dX0_readPile_49 : decode cX0_readPile 49 = .ok (.iload 4, 2) := by decide +kernel
theorem dX0_readPile_51 : decode cX0_readPile 51 = .ok (.iastore, 1) := by decide +kernel
theorem dX0_readPile_52 : decode cX0_readPile 52 = .ok (.aload_n 0, 1) := by decide +kernel
theorem dX0_readPile_53 : decode cX0_readPile 53 = .ok (.getfield 19, 3) := by decide +kernel
theorem dX0_readPile_56 : decode cX0_readPile 56 = .ok (.iload_n 3, 1) := by decide +kernel
theorem dX0_readPile_57 : decode cX0_readPile 57 = .ok (.iload_n 1, 1) := by decide +kernel
theorem dX0_readPile_58 : decode cX0_readPile 58 = .ok (.iastore, 1) := by decide +kernel
theorem dX0_readPile_59 : decode cX0_readPile 59 = .ok (.aload_n 0, 1) := by decide +kernel
theorem dX0_readPile_60 : decode cX0_readPile 60 = .ok (.getfield 19, 3) := by decide +kernel
theorem dX0_readPile_63 : decode cX0_readPile 63 = .ok (.iload 4, 2) := by decide +kernel
theorem dX0_readPile_65 : decode cX0_readPile 65 = .ok (.iload_n 1, 1) := by decide +kernel
theorem dX0_readPile_66 : decode cX0_readPile 66 = .ok (.iconst 1, 1) := by decide +kernel
theorem dX0_readPile_67 : decode cX0_readPile 67 = .ok (.iadd, 1) := by decide +kernel
theorem dX0_readPile_68 : decode cX0_readPile 68 = .ok (.iastore, 1) := by decide +kernel
theorem dX0_readPile_69 : decode cX0_readPile 69 = .ok (.iinc 1 2, 3) := by decide +kernel
theorem dX0_readPile_72 : decode cX0_readPile 72 = .ok (.iinc 2 (-1), 3) := by decide +kernel
theorem dX0_readPile_75 : decode cX0_readPile 75 = .ok (.goto (-66), 3) := by decide +kernel
theorem dX0_readPile_78 : decode cX0_readPile 78 = .ok (.return_, 1) := by decide +kernel
theorem dX0_offsetByRule_0 : decode cX0_offsetByRule 0 = .ok (.aload_n 0, 1) := by decide +kernel
theorem dX0_offsetByRule_1 : decode cX0_offsetByRule 1 = .ok (.getfield 38, 3) := by decide +kernel
theorem dX0_offsetByRule_4 : decode cX0_offsetByRule 4 = .ok (.istore 4, 2) := by decide +kernel
theorem dX0_offsetByRule_6 : decode cX0_offsetByRule 6 = .ok (.aload_n 0, 1) := by decide +kernel
theorem dX0_offsetByRule_7 : decode cX0_offsetByRule 7 = .ok (.getfield 41, 3) := by decide +kernel
theorem dX0_offsetByRule_10 : decode cX0_offsetByRule 10 = .ok (.istore 5, 2) := by decide +kernel
theorem dX0_offsetByRule_12 : decode cX0_offsetByRule 12 = .ok (.iload_n 2, 1) := by decide +kernel
theorem dX0_offsetByRule_13 : decode cX0_offsetByRule 13 = .ok (.istore 6, 2) := by decide +kernel
theorem dX0_offsetByRule_15 : decode cX0_offsetByRule 15 = .ok (.iload_n 3, 1) := by decide +kernel
theorem dX0_offsetByRule_16 : decode cX0_offsetByRule 16 = .ok (.istore 7, 2) := by decide +kernel
theorem dX0_offsetByRule_18 : decode cX0_offsetByRule 18 = .ok (.iconst 0, 1) := by decide +kernel
theorem dX0_offsetByRule_19 : decode cX0_offsetByRule 19 = .ok (.istore 8, 2) := by decide +kernel
theorem dX0_offsetByRule_21 : decode cX0_offsetByRule 21 = .ok (.iconst 0, 1) := by decide +kernel
theorem dX0_offsetByRule_22 : decode cX0_offsetByRule 22 = .ok (.istore 9, 2) := by decide +kernel
theorem dX0_offsetByRule_24 : decode cX0_offsetByRule 24 = .ok (.iconst 1, 1) := by decide +kernel
theorem dX0_offsetByRule_25 : decode cX0_offsetByRule 25 = .ok (.istore 10, 2) := by decide +kernel
theorem dX0_offsetByRule_27 : decode cX0_offsetByRule 27 = .ok (.iconst 0, 1) := by decide +kernel
theorem dX0_offsetByRule_28 : decode cX0_offsetByRule 28 = .ok (.istore 11, 2) := by decide +kernel
theorem dX0_offsetByRule_30 : decode cX0_offsetByRule 30 = .ok (.iload 11, 2) := by decide +kernel
theorem dX0_offsetByRule_32 : decode cX0_offsetByRule 32 = .ok (.aload_n 0, 1) := by decide +kernel
theorem dX0_offsetByRule_33 : decode cX0_offsetByRule 33 = .ok (.getfield 31, 3) := by decide +kernel
theorem dX0_offsetByRule_36 : decode cX0_offsetByRule 36 = .ok (.if_icmp .ge 163, 3) := by decide +kernel
theorem dX0_offsetByRule_39 : decode cX0_offsetByRule 39 = .ok (.aload_n 0, 1) := by decide +kernel
theorem dX0_offsetByRule_40 : decode cX0_offsetByRule 40 = .ok (.getfield 9, 3) := by decide +kernel
theorem dX0_offsetByRule_43 : decode cX0_offsetByRule 43 = .ok (.iload 11, 2) := by decide +kernel
theorem dX0_offsetByRule_45 : decode cX0_offsetByRule 45 = .ok (.iaload, 1) := by decide +kernel
theorem dX0_offsetByRule_46 : decode cX0_offsetByRule 46 = .ok (.ifCond .eq 14, 3) := by decide +kernel
theorem dX0_offsetByRule_49 : decode cX0_offsetByRule 49 = .ok (.aload_n 0, 1) := by decide +kernel
theorem dX0_offsetByRule_50 : decode cX0_offsetByRule 50 = .ok (.getfield 9, 3) := by decide +kernel
theorem dX0_offsetByRule_53 : decode cX0_offsetByRule 53 = .ok (.iload 11, 2) := by decide +kernel
theorem dX0_offsetByRule_55 : decode cX0_offsetByRule 55 = .ok (.iaload, 1) := by decide +kernel
theorem dX0_offsetByRule_56 : decode cX0_offsetByRule 56 = .ok (.iconst 2, 1) := by decide +kernel
theorem dX0_offsetByRule_57 : decode cX0_offsetByRule 57 = .ok (.if_icmp .ne 7, 3) := by decide +kernel
theorem dX0_offsetByRule_60 : decode cX0_offsetByRule 60 = .ok (.iconst 1, 1) := by decide +kernel
theorem dX0_offsetByRule_61 : decode cX0_offsetByRule 61 = .ok (.goto 4, 3) := by decide +kernel
theorem dX0_offsetByRule_64 : decode cX0_offsetByRule 64 = .ok (.iconst 0, 1) := by decide +kernel
theorem dX0_offsetByRule_65 : decode cX0_offsetByRule 65 = .ok (.istore 12, 2) := by decide +kernel
theorem dX0_offsetByRule_67 : decode cX0_offsetByRule 67 = .ok (.aload_n 0, 1) := by decide +kernel
theorem dX0_offsetByRule_68 : decode cX0_offsetByRule 68 = .ok (.getfield 9, 3) := by decide +kernel
theorem dX0_offsetByRule_71 : decode cX0_offsetByRule 71 = .ok (.iload 11, 2) := by decide +kernel
theorem dX0_offsetByRule_73 : decode cX0_offsetByRule 73 = .ok (.iaload, 1) := by decide +kernel
theorem dX0_offsetByRule_74 : decode cX0_offsetByRule 74 = .ok (.invokestatic 44, 3) := by decide +kernel
theorem dX0_offsetByRule_77 : decode cX0_offsetByRule 77 = .ok (.ifCond .eq 47, 3) := by decide +kernel
theorem dX0_offsetByRule_80 : decode cX0_offsetByRule 80 = .ok (.iload 5, 2) := by decide +kernel
theorem dX0_offsetByRule_82 : decode cX0_offsetByRule 82 = .ok (.iconst 2, 1) := by decide +kernel
theorem dX0_offsetByRule_83 : decode cX0_offsetByRule 83 = .ok (.idiv, 1) := by decide +kernel
theorem dX0_offsetByRule_84 : decode cX0_offsetByRule 84 = .ok (.istore 5, 2) := by decide +kernel
theorem dX0_offsetByRule_86 : decode cX0_offsetByRule 86 = .ok (.iload 12, 2) := by decide +kernel
theorem dX0_offsetByRule_88 : decode cX0_offsetByRule 88 = .ok (.iload 7, 2) := by decide +kernel
theorem dX0_offsetByRule_90 : decode cX0_offsetByRule 90 = .ok (.iload 5, 2) := by decide +kernel
theorem dX0_offsetByRule_92 : decode cX0_offsetByRule 92 = .ok (.if_icmp .lt 7, 3) := by decide +kernel
theorem dX0_offsetByRule_95 : decode cX0_offsetByRule 95 = .ok (.iconst 1, 1) := by decide +kernel
theorem dX0_offsetByRule_96 : decode cX0_offsetByRule 96 = .ok (.goto 4, 3) := by decide +kernel
theorem dX0_offsetByRule_99 : decode cX0_offsetByRule 99 = .ok (.iconst 0, 1) := by decide +kernel
theorem dX0_offsetByRule_100 : decode cX0_offsetByRule 100 = .ok (.if_icmp .ne 7, 3) := by decide +kernel
theorem dX0_offsetByRule_103 : decode cX0_offsetByRule 103 = .ok (.iconst 1, 1) := by decide +kernel
theorem dX0_offsetByRule_104 : decode cX0_offsetByRule 104 = .ok (.goto 4, 3) := by decide +kernel
theorem dX0_offsetByRule_107 : decode cX0_offsetByRule 107 = .ok (.iconst 0, 1) := by decide +kernel
theorem dX0_offsetByRule_108 : decode cX0_offsetByRule 108 = .ok (.istore 13, 2) := by decide +kernel
theorem dX0_offsetByRule_110 : decode cX0_offsetByRule 110 = .ok (.iload 7, 2) := by decide +kernel
theorem dX0_offsetByRule_112 : decode cX0_offsetByRule 112 = .ok (.iload 5, 2) := by decide +kernel
theorem dX0_offsetByRule_114 : decode cX0_offsetByRule 114 = .ok (.iload 12, 2) := by decide +kernel
theorem dX0_offsetByRule_116 : decode cX0_offsetByRule 116 = .ok (.invokestatic 85, 3) := by decide +kernel
theorem dX0_offsetByRule_119 : decode cX0_offsetByRule 119 = .ok (.istore 7, 2) := by decide +kernel
theorem dX0_offsetByRule_121 : decode cX0_offsetByRule 121 = .ok (.goto 44, 3) := by decide +kernel
theorem dX0_offsetByRule_124 : decode cX0_offsetByRule 124 = .ok (.iload 4, 2) := by decide +kernel
theorem dX0_offsetByRule_126 : decode cX0_offsetByRule 126 = .ok (.iconst 2, 1) := by decide +kernel
theorem dX0_offsetByRule_127 : decode cX0_offsetByRule 127 = .ok (.idiv, 1) := by decide +kernel
theorem dX0_offsetByRule_128 : decode cX0_offsetByRule 128 = .ok (.istore 4, 2) := by decide +kernel
theorem dX0_offsetByRule_130 : decode cX0_offsetByRule 130 = .ok (.iload 12, 2) := by decide +kernel
theorem dX0_offsetByRule_132 : decode cX0_offsetByRule 132 = .ok (.iload 6, 2) := by decide +kernel
theorem dX0_offsetByRule_134 : decode cX0_offsetByRule 134 = .ok (.iload 4, 2) := by decide +kernel
theorem dX0_offsetByRule_136 : decode cX0_offsetByRule 136 = .ok (.if_icmp .lt 7, 3) := by decide +kernel
theorem dX0_offsetByRule_139 : decode cX0_offsetByRule 139 = .ok (.iconst 1, 1) := by decide +kernel
theorem dX0_offsetByRule_140 : decode cX0_offsetByRule 140 = .ok (.goto 4, 3) := by decide +kernel
theorem dX0_offsetByRule_143 : decode cX0_offsetByRule 143 = .ok (.iconst 0, 1) := by decide +kernel
theorem dX0_offsetByRule_144 : decode cX0_offsetByRule 144 = .ok (.if_icmp .ne 7, 3) := by decide +kernel
theorem dX0_offsetByRule_147 : decode cX0_offsetByRule 147 = .ok (.iconst 1, 1) := by decide +kernel
theorem dX0_offsetByRule_148 : decode cX0_offsetByRule 148 = .ok (.goto 4, 3) := by decide +kernel
theorem dX0_offsetByRule_151 : decode cX0_offsetByRule 151 = .ok (.iconst 0, 1) := by decide +kernel
theorem dX0_offsetByRule_152 : decode cX0_offsetByRule 152 = .ok (.istore 13, 2) := by decide +kernel
theorem dX0_offsetByRule_154 : decode cX0_offsetByRule 154 = .ok (.iload 6, 2) := by decide +kernel
theorem dX0_offsetByRule_156 : decode cX0_offsetByRule 156 = .ok (.iload 4, 2) := by decide +kernel
theorem dX0_offsetByRule_158 : decode cX0_offsetByRule 158 = .ok (.iload 12, 2) := by decide +kernel
theorem dX0_offsetByRule_160 : decode cX0_offsetByRule 160 = .ok (.invokestatic 85, 3) := by decide +kernel
theorem dX0_offsetByRule_163 : decode cX0_offsetByRule 163 = .ok (.istore 6, 2) := by decide +kernel
theorem dX0_offsetByRule_165 : decode cX0_offsetByRule 165 = .ok (.iload 13, 2) := by decide +kernel
theorem dX0_offsetByRule_167 : decode cX0_offsetByRule 167 = .ok (.ifCond .eq 20, 3) := by decide +kernel
theorem dX0_offsetByRule_170 : decode cX0_offsetByRule 170 = .ok (.iconst 2, 1) := by decide +kernel
theorem dX0_offsetByRule_171 : decode cX0_offsetByRule 171 = .ok (.iload 10, 2) := by decide +kernel
theorem dX0_offsetByRule_173 : decode cX0_offsetByRule 173 = .ok (.imul, 1) := by decide +kernel
theorem dX0_offsetByRule_174 : decode cX0_offsetByRule 174 = .ok (.iconst 1, 1) := by decide +kernel
theorem dX0_offsetByRule_175 : decode cX0_offsetByRule 175 = .ok (.isub, 1) := by decide +kernel
theorem dX0_offsetByRule_176 : decode cX0_offsetByRule 176 = .ok (.iload 8, 2) := by decide +kernel
theorem dX0_offsetByRule_178 : decode cX0_offsetByRule 178 = .ok (.isub, 1) := by decide +kernel
theorem dX0_offsetByRule_179 : decode cX0_offsetByRule 179 = .ok (.istore 8, 2) := by decide +kernel
theorem dX0_offsetByRule_181 : decode cX0_offsetByRule 181 = .ok (.iconst 1, 1) := by decide +kernel
theorem dX0_offsetByRule_182 : decode cX0_offsetByRule 182 = .ok (.iload 9, 2) := by decide +kernel
theorem dX0_offsetByRule_184 : decode cX0_offsetByRule 184 = .ok (.isub, 1) := by decide +kernel
theorem dX0_offsetByRule_185 : decode cX0_offsetByRule 185 = .ok (.istore 9, 2) := by decide +kernel
theorem dX0_offsetByRule_187 : decode cX0_offsetByRule 187 = .ok (.iload 10, 2) := by decide +kernel
theorem dX0_offsetByRule_189 : decode cX0_offsetByRule 189 = .ok (.iconst 2, 1) := by decide +kernel
theorem dX0_offsetByRule_190 : decode cX0_offsetByRule 190 = .ok (.imul, 1) := by decide +kernel
theorem dX0_offsetByRule_191 : decode cX0_offsetByRule 191 = .ok (.istore 10, 2) := by decide +kernel
theorem dX0_offsetByRule_193 : decode cX0_offsetByRule 193 = .ok (.iinc 11 1, 3) := by decide +kernel
theorem dX0_offsetByRule_196 : decode cX0_offsetByRule 196 = .ok (.goto (-166), 3) := by decide +kernel
theorem dX0_offsetByRule_199 : decode cX0_offsetByRule 199 = .ok (.iload 10, 2) := by decide +kernel
theorem dX0_offsetByRule_201 : decode cX0_offsetByRule 201 = .ok (.iconst 1, 1) := by decide +kernel
theorem dX0_offsetByRule_202 : decode cX0_offsetByRule 202 = .ok (.isub, 1) := by decide +kernel
theorem dX0_offsetByRule_203 : decode cX0_offsetByRule 203 = .ok (.iload 8, 2) := by decide +kernel
theorem dX0_offsetByRule_205 : decode cX0_offsetByRule 205 = .ok (.isub, 1) := by decide +kernel
theorem dX0_offsetByRule_206 : decode cX0_offsetByRule 206 = .ok (.istore 11, 2) := by decide +kernel
theorem dX0_offsetByRule_208 : decode cX0_offsetByRule 208 = .ok (.iconst 2, 1) := by decide +kernel
theorem dX0_offsetByRule_209 : decode cX0_offsetByRule 209 = .ok (.iload 11, 2) := by decide +kernel
theorem dX0_offsetByRule_211 : decode cX0_offsetByRule 211 = .ok (.imul, 1) := by decide +kernel
theorem dX0_offsetByRule_212 : decode cX0_offsetByRule 212 = .ok (.iload_n 1, 1) := by decide +kernel
theorem dX0_offsetByRule_213 : decode cX0_offsetByRule 213 = .ok (.iload 9, 2) := by decide +kernel
theorem dX0_offsetByRule_215 : decode cX0_offsetByRule 215 = .ok (.if_icmp .ne 7, 3) := by decide +kernel
theorem dX0_offsetByRule_218 : decode cX0_offsetByRule 218 = .ok (.iconst 0, 1) := by decide +kernel
theorem dX0_offsetByRule_219 : decode cX0_offsetByRule 219 = .ok (.goto 4, 3) := by decide +kernel
theorem dX0_offsetByRule_222 : decode cX0_offsetByRule 222 = .ok (.iconst 1, 1) := by decide +kernel
theorem dX0_offsetByRule_223 : decode cX0_offsetByRule 223 = .ok (.iadd, 1) := by decide +kernel
theorem dX0_offsetByRule_224 : decode cX0_offsetByRule 224 = .ok (.ireturn, 1) := by decide +kernel
theorem dX0_foldedSpot_0 : decode cX0_foldedSpot 0 = .ok (.iload_n 2, 1) := by decide +kernel
theorem dX0_foldedSpot_1 : decode cX0_foldedSpot 1 = .ok (.ifCond .eq 20, 3) := by decide +kernel
theorem dX0_foldedSpot_4 : decode cX0_foldedSpot 4 = .ok (.iload_n 0, 1) := by decide +kernel
theorem dX0_foldedSpot_5 : decode cX0_foldedSpot 5 = .ok (.iload_n 1, 1) := by decide +kernel
theorem dX0_foldedSpot_6 : decode cX0_foldedSpot 6 = .ok (.if_icmp .ge 7, 3) := by decide +kernel
theorem dX0_foldedSpot_9 : decode cX0_foldedSpot 9 = .ok (.iload_n 0, 1) := by decide +kernel
theorem dX0_foldedSpot_10 : decode cX0_foldedSpot 10 = .ok (.goto 10, 3) := by decide +kernel
theorem dX0_foldedSpot_13 : decode cX0_foldedSpot 13 = .ok (.iconst 2, 1) := by decide +kernel
theorem dX0_foldedSpot_14 : decode cX0_foldedSpot 14 = .ok (.iload_n 1, 1) := by decide +kernel
theorem dX0_foldedSpot_15 : decode cX0_foldedSpot 15 = .ok (.imul, 1) := by decide +kernel
theorem dX0_foldedSpot_16 : decode cX0_foldedSpot 16 = .ok (.iconst 1, 1) := by decide +kernel
theorem dX0_foldedSpot_17 : decode cX0_foldedSpot 17 = .ok (.isub, 1) := by decide +kernel
theorem dX0_foldedSpot_18 : decode cX0_foldedSpot 18 = .ok (.iload_n 0, 1) := by decide +kernel
theorem dX0_foldedSpot_19 : decode cX0_foldedSpot 19 = .ok (.isub, 1) := by decide +kernel
theorem dX0_foldedSpot_20 : decode cX0_foldedSpot 20 = .ok (.ireturn, 1) := by decide +kernel
theorem dX0_foldedSpot_21 : decode cX0_foldedSpot 21 = .ok (.iload_n 0, 1) := by decide +kernel
theorem dX0_foldedSpot_22 : decode cX0_foldedSpot 22 = .ok (.iload_n 1, 1) := by decide +kernel
theorem dX0_foldedSpot_23 : decode cX0_foldedSpot 23 = .ok (.if_icmp .ge 11, 3) := by decide +kernel
theorem dX0_foldedSpot_26 : decode cX0_foldedSpot 26 = .ok (.iload_n 1, 1) := by decide +kernel
theorem dX0_foldedSpot_27 : decode cX0_foldedSpot 27 = .ok (.iconst 1, 1) := by decide +kernel
theorem dX0_foldedSpot_28 : decode cX0_foldedSpot 28 = .ok (.isub, 1) := by decide +kernel
theorem dX0_foldedSpot_29 : decode cX0_foldedSpot 29 = .ok (.iload_n 0, 1) := by decide +kernel
theorem dX0_foldedSpot_30 : decode cX0_foldedSpot 30 = .ok (.isub, 1) := by decide +kernel
theorem dX0_foldedSpot_31 : decode cX0_foldedSpot 31 = .ok (.goto 6, 3) := by decide +kernel
theorem dX0_foldedSpot_34 : decode cX0_foldedSpot 34 = .ok (.iload_n 0, 1) := by decide +kernel
theorem dX0_foldedSpot_35 : decode cX0_foldedSpot 35 = .ok (.iload_n 1, 1) := by decide +kernel
theorem dX0_foldedSpot_36 : decode cX0_foldedSpot 36 = .ok (.isub, 1) := by decide +kernel
theorem dX0_foldedSpot_37 : decode cX0_foldedSpot 37 = .ok (.ireturn, 1) := by decide +kernel
theorem dX1_init_0 : decode cX1_init 0 = .ok (.aload_n 0, 1) := by decide +kernel
theorem dX1_init_1 : decode cX1_init 1 = .ok (.invokespecial 1, 3) := by decide +kernel
theorem dX1_init_4 : decode cX1_init 4 = .ok (.return_, 1) := by decide +kernel
theorem dX1_give_0 : decode cX1_give 0 = .ok (.aload_n 0, 1) := by decide +kernel
theorem dX1_give_1 : decode cX1_give 1 = .ok (.iconst 1, 1) := by decide +kernel
theorem dX1_give_2 : decode cX1_give 2 = .ok (.putfield 7, 3) := by decide +kernel
theorem dX1_give_5 : decode cX1_give 5 = .ok (.aload_n 0, 1) := by decide +kernel
theorem dX1_give_6 : decode cX1_give 6 = .ok (.iload_n 1, 1) := by decide +kernel
theorem dX1_give_7 : decode cX1_give 7 = .ok (.putfield 13, 3) := by decide +kernel
theorem dX1_give_10 : decode cX1_give 10 = .ok (.aload_n 0, 1) := by decide +kernel
theorem dX1_give_11 : decode cX1_give 11 = .ok (.iload_n 2, 1) := by decide +kernel
theorem dX1_give_12 : decode cX1_give 12 = .ok (.putfield 17, 3) := by decide +kernel
theorem dX1_give_15 : decode cX1_give 15 = .ok (.return_, 1) := by decide +kernel
theorem dX1_allows_0 : decode cX1_allows 0 = .ok (.aload_n 0, 1) := by decide +kernel
theorem dX1_allows_1 : decode cX1_allows 1 = .ok (.getfield 7, 3) := by decide +kernel
theorem dX1_allows_4 : decode cX1_allows 4 = .ok (.ifCond .eq 23, 3) := by decide +kernel
theorem dX1_allows_7 : decode cX1_allows 7 = .ok (.aload_n 0, 1) := by decide +kernel
theorem dX1_allows_8 : decode cX1_allows 8 = .ok (.getfield 13, 3) := by decide +kernel
theorem dX1_allows_11 : decode cX1_allows 11 = .ok (.iload_n 1, 1) := by decide +kernel
theorem dX1_allows_12 : decode cX1_allows 12 = .ok (.if_icmp .gt 15, 3) := by decide +kernel
theorem dX1_allows_15 : decode cX1_allows 15 = .ok (.iload_n 1, 1) := by decide +kernel
theorem dX1_allows_16 : decode cX1_allows 16 = .ok (.aload_n 0, 1) := by decide +kernel
theorem dX1_allows_17 : decode cX1_allows 17 = .ok (.getfield 17, 3) := by decide +kernel
theorem dX1_allows_20 : decode cX1_allows 20 = .ok (.if_icmp .gt 7, 3) := by decide +kernel
theorem dX1_allows_23 : decode cX1_allows 23 = .ok (.iconst 1, 1) := by decide +kernel
theorem dX1_allows_24 : decode cX1_allows 24 = .ok (.goto 4, 3) := by decide +kernel
theorem dX1_allows_27 : decode cX1_allows 27 = .ok (.iconst 0, 1) := by decide +kernel
theorem dX1_allows_28 : decode cX1_allows 28 = .ok (.ireturn, 1) := by decide +kernel
theorem dX2_init_0 : decode cX2_init 0 = .ok (.aload_n 0, 1) := by decide +kernel
theorem dX2_init_1 : decode cX2_init 1 = .ok (.invokespecial 3, 3) := by decide +kernel
theorem dX2_init_4 : decode cX2_init 4 = .ok (.aload_n 0, 1) := by decide +kernel
theorem dX2_init_5 : decode cX2_init 5 = .ok (.iload_n 1, 1) := by decide +kernel
theorem dX2_init_6 : decode cX2_init 6 = .ok (.putfield 9, 3) := by decide +kernel
theorem dX2_init_9 : decode cX2_init 9 = .ok (.aload_n 0, 1) := by decide +kernel
theorem dX2_init_10 : decode cX2_init 10 = .ok (.iload_n 2, 1) := by decide +kernel
theorem dX2_init_11 : decode cX2_init 11 = .ok (.putfield 15, 3) := by decide +kernel
theorem dX2_init_14 : decode cX2_init 14 = .ok (.aload_n 0, 1) := by decide +kernel
theorem dX2_init_15 : decode cX2_init 15 = .ok (.iload_n 3, 1) := by decide +kernel
theorem dX2_init_16 : decode cX2_init 16 = .ok (.putfield 18, 3) := by decide +kernel
theorem dX2_init_19 : decode cX2_init 19 = .ok (.aload_n 0, 1) := by decide +kernel
theorem dX2_init_20 : decode cX2_init 20 = .ok (.iconst 1, 1) := by decide +kernel
theorem dX2_init_21 : decode cX2_init 21 = .ok (.putfield 21, 3) := by decide +kernel
theorem dX2_init_24 : decode cX2_init 24 = .ok (.aload_n 0, 1) := by decide +kernel
theorem dX2_init_25 : decode cX2_init 25 = .ok (.iconst 4, 1) := by decide +kernel
theorem dX2_init_26 : decode cX2_init 26 = .ok (.newarray .int, 2) := by decide +kernel
theorem dX2_init_28 : decode cX2_init 28 = .ok (.putfield 24, 3) := by decide +kernel
theorem dX2_init_31 : decode cX2_init 31 = .ok (.return_, 1) := by decide +kernel
theorem dX2_usesFont_0 : decode cX2_usesFont 0 = .ok (.aload_n 0, 1) := by decide +kernel
theorem dX2_usesFont_1 : decode cX2_usesFont 1 = .ok (.getfield 15, 3) := by decide +kernel
theorem dX2_usesFont_4 : decode cX2_usesFont 4 = .ok (.iload_n 1, 1) := by decide +kernel
theorem dX2_usesFont_5 : decode cX2_usesFont 5 = .ok (.ishr, 1) := by decide +kernel
theorem dX2_usesFont_6 : decode cX2_usesFont 6 = .ok (.iconst 1, 1) := by decide +kernel
theorem dX2_usesFont_7 : decode cX2_usesFont 7 = .ok (.iand, 1) := by decide +kernel
theorem dX2_usesFont_8 : decode cX2_usesFont 8 = .ok (.ifCond .eq 7, 3) := by decide +kernel
theorem dX2_usesFont_11 : decode cX2_usesFont 11 = .ok (.iconst 1, 1) := by decide +kernel
theorem dX2_usesFont_12 : decode cX2_usesFont 12 = .ok (.goto 4, 3) := by decide +kernel
theorem dX2_usesFont_15 : decode cX2_usesFont 15 = .ok (.iconst 0, 1) := by decide +kernel
theorem dX2_usesFont_16 : decode cX2_usesFont 16 = .ok (.ireturn, 1) := by decide +kernel
theorem dX2_usesColor_0 : decode cX2_usesColor 0 = .ok (.aload_n 0, 1) := by decide +kernel
theorem dX2_usesColor_1 : decode cX2_usesColor 1 = .ok (.getfield 18, 3) := by decide +kernel
theorem dX2_usesColor_4 : decode cX2_usesColor 4 = .ok (.iload_n 1, 1) := by decide +kernel
theorem dX2_usesColor_5 : decode cX2_usesColor 5 = .ok (.ishr, 1) := by decide +kernel
theorem dX2_usesColor_6 : decode cX2_usesColor 6 = .ok (.iconst 1, 1) := by decide +kernel
theorem dX2_usesColor_7 : decode cX2_usesColor 7 = .ok (.iand, 1) := by decide +kernel
theorem dX2_usesColor_8 : decode cX2_usesColor 8 = .ok (.ifCond .eq 7, 3) := by decide +kernel
theorem dX2_usesColor_11 : decode cX2_usesColor 11 = .ok (.iconst 1, 1) := by decide +kernel
theorem dX2_usesColor_12 : decode cX2_usesColor 12 = .ok (.goto 4, 3) := by decide +kernel
theorem dX2_usesColor_15 : decode cX2_usesColor 15 = .ok (.iconst 0, 1) := by decide +kernel
theorem dX2_usesColor_16 : decode cX2_usesColor 16 = .ok (.ireturn, 1) := by decide +kernel
theorem dX2_rewrite_0 : decode cX2_rewrite 0 = .ok (.aload_n 0, 1) := by decide +kernel
theorem dX2_rewrite_1 : decode cX2_rewrite 1 = .ok (.iload_n 1, 1) := by decide +kernel
theorem dX2_rewrite_2 : decode cX2_rewrite 2 = .ok (.putfield 15, 3) := by decide +kernel
theorem dX2_rewrite_5 : decode cX2_rewrite 5 = .ok (.aload_n 0, 1) := by decide +kernel
theorem dX2_rewrite_6 : decode cX2_rewrite 6 = .ok (.iload_n 2, 1) := by decide +kernel
theorem dX2_rewrite_7 : decode cX2_rewrite 7 = .ok (.putfield 18, 3) := by decide +kernel
theorem dX2_rewrite_10 : decode cX2_rewrite 10 = .ok (.aload_n 0, 1) := by decide +kernel
theorem dX2_rewrite_11 : decode cX2_rewrite 11 = .ok (.dup, 1) := by decide +kernel
theorem dX2_rewrite_12 : decode cX2_rewrite 12 = .ok (.getfield 21, 3) := by decide +kernel
theorem dX2_rewrite_15 : decode cX2_rewrite 15 = .ok (.iconst 1, 1) := by decide +kernel
theorem dX2_rewrite_16 : decode cX2_rewrite 16 = .ok (.iadd, 1) := by decide +kernel
theorem dX2_rewrite_17 : decode cX2_rewrite 17 = .ok (.putfield 21, 3) := by decide +kernel
theorem dX2_rewrite_20 : decode cX2_rewrite 20 = .ok (.aload_n 0, 1) := by decide +kernel
theorem dX2_rewrite_21 : decode cX2_rewrite 21 = .ok (.invokevirtual 28, 3) := by decide +kernel
theorem dX2_rewrite_24 : decode cX2_rewrite 24 = .ok (.return_, 1) := by decide +kernel
theorem dX2_dropProofs_0 : decode cX2_dropProofs 0 = .ok (.iconst 0, 1) := by decide +kernel
theorem dX2_dropProofs_1 : decode cX2_dropProofs 1 = .ok (.istore_n 1, 1) := by decide +kernel
theorem dX2_dropProofs_2 : decode cX2_dropProofs 2 = .ok (.iload_n 1, 1) := by decide +kernel
theorem dX2_dropProofs_3 : decode cX2_dropProofs 3 = .ok (.iconst 4, 1) := by decide +kernel
theorem dX2_dropProofs_4 : decode cX2_dropProofs 4 = .ok (.if_icmp .ge 16, 3) := by decide +kernel
theorem dX2_dropProofs_7 : decode cX2_dropProofs 7 = .ok (.aload_n 0, 1) := by decide +kernel
theorem dX2_dropProofs_8 : decode cX2_dropProofs 8 = .ok (.getfield 24, 3) := by decide +kernel
theorem dX2_dropProofs_11 : decode cX2_dropProofs 11 = .ok (.iload_n 1, 1) := by decide +kernel
theorem dX2_dropProofs_12 : decode cX2_dropProofs 12 = .ok (.iconst 0, 1) := by decide +kernel
theorem dX2_dropProofs_13 : decode cX2_dropProofs 13 = .ok (.iastore, 1) := by decide +kernel
theorem dX2_dropProofs_14 : decode cX2_dropProofs 14 = .ok (.iinc 1 1, 3) := by decide +kernel
theorem dX2_dropProofs_17 : decode cX2_dropProofs 17 = .ok (.goto (-15), 3) := by decide +kernel
theorem dX2_dropProofs_20 : decode cX2_dropProofs 20 = .ok (.return_, 1) := by decide +kernel
theorem dX2_countProofs_0 : decode cX2_countProofs 0 = .ok (.iconst 0, 1) := by decide +kernel
theorem dX2_countProofs_1 : decode cX2_countProofs 1 = .ok (.istore_n 2, 1) := by decide +kernel
theorem dX2_countProofs_2 : decode cX2_countProofs 2 = .ok (.iconst 0, 1) := by decide +kernel
theorem dX2_countProofs_3 : decode cX2_countProofs 3 = .ok (.istore_n 3, 1) := by decide +kernel
theorem dX2_countProofs_4 : decode cX2_countProofs 4 = .ok (.iload_n 3, 1) := by decide +kernel
theorem dX2_countProofs_5 : decode cX2_countProofs 5 = .ok (.iconst 4, 1) := by decide +kernel
theorem dX2_countProofs_6 : decode cX2_countProofs 6 = .ok (.if_icmp .ge 22, 3) := by decide +kernel
theorem dX2_countProofs_9 : decode cX2_countProofs 9 = .ok (.aload_n 0, 1) := by decide +kernel
theorem dX2_countProofs_10 : decode cX2_countProofs 10 = .ok (.getfield 24, 3) := by decide +kernel
theorem dX2_countProofs_13 : decode cX2_countProofs 13 = .ok (.iload_n 3, 1) := by decide +kernel
theorem dX2_countProofs_14 : decode cX2_countProofs 14 = .ok (.iaload, 1) := by decide +kernel
theorem dX2_countProofs_15 : decode cX2_countProofs 15 = .ok (.iload_n 1, 1) := by decide +kernel
theorem dX2_countProofs_16 : decode cX2_countProofs 16 = .ok (.if_icmp .ne 6, 3) := by decide +kernel
theorem dX2_countProofs_19 : decode cX2_countProofs 19 = .ok (.iinc 2 1, 3) := by decide +kernel
theorem dX2_countProofs_22 : decode cX2_countProofs 22 = .ok (.iinc 3 1, 3) := by decide +kernel
theorem dX2_countProofs_25 : decode cX2_countProofs 25 = .ok (.goto (-21), 3) := by decide +kernel
theorem dX2_countProofs_28 : decode cX2_countProofs 28 = .ok (.iload_n 2, 1) := by decide +kernel
theorem dX2_countProofs_29 : decode cX2_countProofs 29 = .ok (.ireturn, 1) := by decide +kernel
theorem dX3_init_0 : decode cX3_init 0 = .ok (.aload_n 0, 1) := by decide +kernel
theorem dX3_init_1 : decode cX3_init 1 = .ok (.invokespecial 3, 3) := by decide +kernel
theorem dX3_init_4 : decode cX3_init 4 = .ok (.aload_n 0, 1) := by decide +kernel
theorem dX3_init_5 : decode cX3_init 5 = .ok (.bipush 16, 2) := by decide +kernel
theorem dX3_init_7 : decode cX3_init 7 = .ok (.newarray .long, 2) := by decide +kernel
theorem dX3_init_9 : decode cX3_init 9 = .ok (.putfield 9, 3) := by decide +kernel
theorem dX3_init_12 : decode cX3_init 12 = .ok (.return_, 1) := by decide +kernel
theorem dX3_engrave_0 : decode cX3_engrave 0 = .ok (.aload_n 0, 1) := by decide +kernel
theorem dX3_engrave_1 : decode cX3_engrave 1 = .ok (.iload_n 2, 1) := by decide +kernel
theorem dX3_engrave_2 : decode cX3_engrave 2 = .ok (.bipush 16, 2) := by decide +kernel
theorem dX3_engrave_4 : decode cX3_engrave 4 = .ok (.invokestatic 15, 3) := by decide +kernel
theorem dX3_engrave_7 : decode cX3_engrave 7 = .ok (.putfield 21, 3) := by decide +kernel
theorem dX3_engrave_10 : decode cX3_engrave 10 = .ok (.iconst 0, 1) := by decide +kernel
theorem dX3_engrave_11 : decode cX3_engrave 11 = .ok (.istore_n 3, 1) := by decide +kernel
theorem dX3_engrave_12 : decode cX3_engrave 12 = .ok (.iload_n 3, 1) := by decide +kernel
theorem dX3_engrave_13 : decode cX3_engrave 13 = .ok (.aload_n 0, 1) := by decide +kernel
theorem dX3_engrave_14 : decode cX3_engrave 14 = .ok (.getfield 21, 3) := by decide +kernel
theorem dX3_engrave_17 : decode cX3_engrave 17 = .ok (.if_icmp .ge 18, 3) := by decide +kernel
theorem dX3_engrave_20 : decode cX3_engrave 20 = .ok (.aload_n 0, 1) := by decide +kernel
theorem dX3_engrave_21 : decode cX3_engrave 21 = .ok (.getfield 9, 3) := by decide +kernel
theorem dX3_engrave_24 : decode cX3_engrave 24 = .ok (.iload_n 3, 1) := by decide +kernel
theorem dX3_engrave_25 : decode cX3_engrave 25 = .ok (.aload_n 1, 1) := by decide +kernel
theorem dX3_engrave_26 : decode cX3_engrave 26 = .ok (.iload_n 3, 1) := by decide +kernel
theorem dX3_engrave_27 : decode cX3_engrave 27 = .ok (.laload, 1) := by decide +kernel
theorem dX3_engrave_28 : decode cX3_engrave 28 = .ok (.lastore, 1) := by decide +kernel
theorem dX3_engrave_29 : decode cX3_engrave 29 = .ok (.iinc 3 1, 3) := by decide +kernel
theorem dX3_engrave_32 : decode cX3_engrave 32 = .ok (.goto (-20), 3) := by decide +kernel
theorem dX3_engrave_35 : decode cX3_engrave 35 = .ok (.aload_n 0, 1) := by decide +kernel
theorem dX3_engrave_36 : decode cX3_engrave 36 = .ok (.iconst 0, 1) := by decide +kernel
theorem dX3_engrave_37 : decode cX3_engrave 37 = .ok (.putfield 25, 3) := by decide +kernel
theorem dX3_engrave_40 : decode cX3_engrave 40 = .ok (.return_, 1) := by decide +kernel
theorem dX3_shows_0 : decode cX3_shows 0 = .ok (.iload_n 2, 1) := by decide +kernel
theorem dX3_shows_1 : decode cX3_shows 1 = .ok (.aload_n 0, 1) := by decide +kernel
theorem dX3_shows_2 : decode cX3_shows 2 = .ok (.getfield 21, 3) := by decide +kernel
theorem dX3_shows_5 : decode cX3_shows 5 = .ok (.if_icmp .eq 5, 3) := by decide +kernel
theorem dX3_shows_8 : decode cX3_shows 8 = .ok (.iconst 0, 1) := by decide +kernel
theorem dX3_shows_9 : decode cX3_shows 9 = .ok (.ireturn, 1) := by decide +kernel
theorem dX3_shows_10 : decode cX3_shows 10 = .ok (.iconst 0, 1) := by decide +kernel
theorem dX3_shows_11 : decode cX3_shows 11 = .ok (.istore_n 3, 1) := by decide +kernel
theorem dX3_shows_12 : decode cX3_shows 12 = .ok (.iload_n 3, 1) := by decide +kernel
theorem dX3_shows_13 : decode cX3_shows 13 = .ok (.aload_n 0, 1) := by decide +kernel
theorem dX3_shows_14 : decode cX3_shows 14 = .ok (.getfield 21, 3) := by decide +kernel
theorem dX3_shows_17 : decode cX3_shows 17 = .ok (.if_icmp .ge 24, 3) := by decide +kernel
theorem dX3_shows_20 : decode cX3_shows 20 = .ok (.aload_n 0, 1) := by decide +kernel
theorem dX3_shows_21 : decode cX3_shows 21 = .ok (.getfield 9, 3) := by decide +kernel
theorem dX3_shows_24 : decode cX3_shows 24 = .ok (.iload_n 3, 1) := by decide +kernel
theorem dX3_shows_25 : decode cX3_shows 25 = .ok (.laload, 1) := by decide +kernel
theorem dX3_shows_26 : decode cX3_shows 26 = .ok (.aload_n 1, 1) := by decide +kernel
theorem dX3_shows_27 : decode cX3_shows 27 = .ok (.iload_n 3, 1) := by decide +kernel
theorem dX3_shows_28 : decode cX3_shows 28 = .ok (.laload, 1) := by decide +kernel
theorem dX3_shows_29 : decode cX3_shows 29 = .ok (.lcmp, 1) := by decide +kernel
theorem dX3_shows_30 : decode cX3_shows 30 = .ok (.ifCond .eq 5, 3) := by decide +kernel
theorem dX3_shows_33 : decode cX3_shows 33 = .ok (.iconst 0, 1) := by decide +kernel
theorem dX3_shows_34 : decode cX3_shows 34 = .ok (.ireturn, 1) := by decide +kernel
theorem dX3_shows_35 : decode cX3_shows 35 = .ok (.iinc 3 1, 3) := by decide +kernel
theorem dX3_shows_38 : decode cX3_shows 38 = .ok (.goto (-26), 3) := by decide +kernel
theorem dX3_shows_41 : decode cX3_shows 41 = .ok (.iconst 1, 1) := by decide +kernel
theorem dX3_shows_42 : decode cX3_shows 42 = .ok (.ireturn, 1) := by decide +kernel
theorem dX4_init_0 : decode cX4_init 0 = .ok (.aload_n 0, 1) := by decide +kernel
theorem dX4_init_1 : decode cX4_init 1 = .ok (.invokespecial 1, 3) := by decide +kernel
theorem dX4_init_4 : decode cX4_init 4 = .ok (.aload_n 0, 1) := by decide +kernel
theorem dX4_init_5 : decode cX4_init 5 = .ok (.bipush 64, 2) := by decide +kernel
theorem dX4_init_7 : decode cX4_init 7 = .ok (.anewarray 9, 3) := by decide +kernel
theorem dX4_init_10 : decode cX4_init 10 = .ok (.putfield 11, 3) := by decide +kernel
theorem dX4_init_13 : decode cX4_init 13 = .ok (.aload_n 0, 1) := by decide +kernel
theorem dX4_init_14 : decode cX4_init 14 = .ok (.new 15, 3) := by decide +kernel
theorem dX4_init_17 : decode cX4_init 17 = .ok (.dup, 1) := by decide +kernel
theorem dX4_init_18 : decode cX4_init 18 = .ok (.invokespecial 17, 3) := by decide +kernel
theorem dX4_init_21 : decode cX4_init 21 = .ok (.putfield 18, 3) := by decide +kernel
theorem dX4_init_24 : decode cX4_init 24 = .ok (.aload_n 0, 1) := by decide +kernel
theorem dX4_init_25 : decode cX4_init 25 = .ok (.getfield 18, 3) := by decide +kernel
theorem dX4_init_28 : decode cX4_init 28 = .ok (.iconst 1, 1) := by decide +kernel
theorem dX4_init_29 : decode cX4_init 29 = .ok (.iconst 0, 1) := by decide +kernel
theorem dX4_init_30 : decode cX4_init 30 = .ok (.invokevirtual 22, 3) := by decide +kernel
theorem dX4_init_33 : decode cX4_init 33 = .ok (.aload_n 0, 1) := by decide +kernel
theorem dX4_init_34 : decode cX4_init 34 = .ok (.bipush 8, 2) := by decide +kernel
theorem dX4_init_36 : decode cX4_init 36 = .ok (.anewarray 26, 3) := by decide +kernel
theorem dX4_init_39 : decode cX4_init 39 = .ok (.putfield 28, 3) := by decide +kernel
theorem dX4_init_42 : decode cX4_init 42 = .ok (.iconst 0, 1) := by decide +kernel
theorem dX4_init_43 : decode cX4_init 43 = .ok (.istore_n 1, 1) := by decide +kernel
theorem dX4_init_44 : decode cX4_init 44 = .ok (.iload_n 1, 1) := by decide +kernel
theorem dX4_init_45 : decode cX4_init 45 = .ok (.bipush 8, 2) := by decide +kernel
theorem dX4_init_47 : decode cX4_init 47 = .ok (.if_icmp .ge 22, 3) := by decide +kernel
theorem dX4_init_50 : decode cX4_init 50 = .ok (.aload_n 0, 1) := by decide +kernel
theorem dX4_init_51 : decode cX4_init 51 = .ok (.getfield 28, 3) := by decide +kernel
theorem dX4_init_54 : decode cX4_init 54 = .ok (.iload_n 1, 1) := by decide +kernel
theorem dX4_init_55 : decode cX4_init 55 = .ok (.new 26, 3) := by decide +kernel
theorem dX4_init_58 : decode cX4_init 58 = .ok (.dup, 1) := by decide +kernel
theorem dX4_init_59 : decode cX4_init 59 = .ok (.invokespecial 32, 3) := by decide +kernel
theorem dX4_init_62 : decode cX4_init 62 = .ok (.aastore, 1) := by decide +kernel
theorem dX4_init_63 : decode cX4_init 63 = .ok (.iinc 1 1, 3) := by decide +kernel
theorem dX4_init_66 : decode cX4_init 66 = .ok (.goto (-22), 3) := by decide +kernel
theorem dX4_init_69 : decode cX4_init 69 = .ok (.aload_n 0, 1) := by decide +kernel
theorem dX4_init_70 : decode cX4_init 70 = .ok (.bipush 16, 2) := by decide +kernel
theorem dX4_init_72 : decode cX4_init 72 = .ok (.newarray .boolean, 2) := by decide +kernel
theorem dX4_init_74 : decode cX4_init 74 = .ok (.putfield 33, 3) := by decide +kernel
theorem dX4_init_77 : decode cX4_init 77 = .ok (.aload_n 0, 1) := by decide +kernel
theorem dX4_init_78 : decode cX4_init 78 = .ok (.sipush 128, 3) := by decide +kernel
theorem dX4_init_81 : decode cX4_init 81 = .ok (.anewarray 37, 3) := by decide +kernel
theorem dX4_init_84 : decode cX4_init 84 = .ok (.putfield 39, 3) := by decide +kernel
theorem dX4_init_87 : decode cX4_init 87 = .ok (.aload_n 0, 1) := by decide +kernel
theorem dX4_init_88 : decode cX4_init 88 = .ok (.bipush 16, 2) := by decide +kernel
theorem dX4_init_90 : decode cX4_init 90 = .ok (.newarray .long, 2) := by decide +kernel
theorem dX4_init_92 : decode cX4_init 92 = .ok (.putfield 43, 3) := by decide +kernel
theorem dX4_init_95 : decode cX4_init 95 = .ok (.return_, 1) := by decide +kernel
theorem dX4_insert_0 : decode cX4_insert 0 = .ok (.iload_n 1, 1) := by decide +kernel
theorem dX4_insert_1 : decode cX4_insert 1 = .ok (.ifCond .lt 11, 3) := by decide +kernel
theorem dX4_insert_4 : decode cX4_insert 4 = .ok (.iload_n 1, 1) := by decide +kernel
theorem dX4_insert_5 : decode cX4_insert 5 = .ok (.aload_n 0, 1) := by decide +kernel
theorem dX4_insert_6 : decode cX4_insert 6 = .ok (.getfield 47, 3) := by decide +kernel
theorem dX4_insert_9 : decode cX4_insert 9 = .ok (.if_icmp .le 13, 3) := by decide +kernel
theorem dX4_insert_12 : decode cX4_insert 12 = .ok (.new 51, 3) := by decide +kernel
theorem dX4_insert_15 : decode cX4_insert 15 = .ok (.dup, 1) := by decide +kernel
theorem dX4_insert_16 : decode cX4_insert 16 = .ok (.ldc 53, 2) := by decide +kernel
theorem dX4_insert_18 : decode cX4_insert 18 = .ok (.invokespecial 55, 3) := by decide +kernel
theorem dX4_insert_21 : decode cX4_insert 21 = .ok (.athrow, 1) := by decide +kernel
theorem dX4_insert_22 : decode cX4_insert 22 = .ok (.iload_n 2, 1) := by decide +kernel
theorem dX4_insert_23 : decode cX4_insert 23 = .ok (.iload_n 3, 1) := by decide +kernel
theorem dX4_insert_24 : decode cX4_insert 24 = .ok (.invokestatic 58, 3) := by decide +kernel
theorem dX4_insert_27 : decode cX4_insert 27 = .ok (.aload_n 0, 1) := by decide +kernel
theorem dX4_insert_28 : decode cX4_insert 28 = .ok (.getfield 47, 3) := by decide +kernel
theorem dX4_insert_31 : decode cX4_insert 31 = .ok (.bipush 64, 2) := by decide +kernel
theorem dX4_insert_33 : decode cX4_insert 33 = .ok (.if_icmp .ge 12, 3) := by decide +kernel
theorem dX4_insert_36 : decode cX4_insert 36 = .ok (.aload_n 0, 1) := by decide +kernel
theorem dX4_insert_37 : decode cX4_insert 37 = .ok (.getfield 61, 3) := by decide +kernel
theorem dX4_insert_40 : decode cX4_insert 40 = .ok (.bipush 100, 2) := by decide +kernel
theorem dX4_insert_42 : decode cX4_insert 42 = .ok (.if_icmp .lt 13, 3) := by decide +kernel
theorem dX4_insert_45 : decode cX4_insert 45 = .ok (.new 64, 3) := by decide +kernel
theorem dX4_insert_48 : decode cX4_insert 48 = .ok (.dup, 1) := by decide +kernel
theorem dX4_insert_49 : decode cX4_insert 49 = .ok (.ldc 66, 2) := by decide +kernel
theorem dX4_insert_51 : decode cX4_insert 51 = .ok (.invokespecial 68, 3) := by decide +kernel
theorem dX4_insert_54 : decode cX4_insert 54 = .ok (.athrow, 1) := by decide +kernel
theorem dX4_insert_55 : decode cX4_insert 55 = .ok (.aload_n 0, 1) := by decide +kernel
theorem dX4_insert_56 : decode cX4_insert 56 = .ok (.getfield 47, 3) := by decide +kernel
theorem dX4_insert_59 : decode cX4_insert 59 = .ok (.istore 4, 2) := by decide +kernel
theorem dX4_insert_61 : decode cX4_insert 61 = .ok (.iload 4, 2) := by decide +kernel
theorem dX4_insert_63 : decode cX4_insert 63 = .ok (.iload_n 1, 1) := by decide +kernel
theorem dX4_insert_64 : decode cX4_insert 64 = .ok (.if_icmp .le 25, 3) := by decide +kernel
theorem dX4_insert_67 : decode cX4_insert 67 = .ok (.aload_n 0, 1) := by decide +kernel
theorem dX4_insert_68 : decode cX4_insert 68 = .ok (.getfield 11, 3) := by decide +kernel
theorem dX4_insert_71 : decode cX4_insert 71 = .ok (.iload 4, 2) := by decide +kernel
theorem dX4_insert_73 : decode cX4_insert 73 = .ok (.aload_n 0, 1) := by decide +kernel
theorem dX4_insert_74 : decode cX4_insert 74 = .ok (.getfield 11, 3) := by decide +kernel
theorem dX4_insert_77 : decode cX4_insert 77 = .ok (.iload 4, 2) := by decide +kernel
theorem dX4_insert_79 : decode cX4_insert 79 = .ok (.iconst 1, 1) := by decide +kernel
theorem dX4_insert_80 : decode cX4_insert 80 = .ok (.isub, 1) := by decide +kernel
theorem dX4_insert_81 : decode cX4_insert 81 = .ok (.aaload, 1) := by decide +kernel
theorem dX4_insert_82 : decode cX4_insert 82 = .ok (.aastore, 1) := by decide +kernel
theorem dX4_insert_83 : decode cX4_insert 83 = .ok (.iinc 4 (-1), 3) := by decide +kernel
theorem dX4_insert_86 : decode cX4_insert 86 = .ok (.goto (-25), 3) := by decide +kernel
theorem dX4_insert_89 : decode cX4_insert 89 = .ok (.aload_n 0, 1) := by decide +kernel
theorem dX4_insert_90 : decode cX4_insert 90 = .ok (.getfield 11, 3) := by decide +kernel
theorem dX4_insert_93 : decode cX4_insert 93 = .ok (.iload_n 1, 1) := by decide +kernel
theorem dX4_insert_94 : decode cX4_insert 94 = .ok (.new 9, 3) := by decide +kernel
theorem dX4_insert_97 : decode cX4_insert 97 = .ok (.dup, 1) := by decide +kernel
theorem dX4_insert_98 : decode cX4_insert 98 = .ok (.aload_n 0, 1) := by decide +kernel
theorem dX4_insert_99 : decode cX4_insert 99 = .ok (.getfield 61, 3) := by decide +kernel
theorem dX4_insert_102 : decode cX4_insert 102 = .ok (.iload_n 2, 1) := by decide +kernel
theorem dX4_insert_103 : decode cX4_insert 103 = .ok (.iload_n 3, 1) := by decide +kernel
theorem dX4_insert_104 : decode cX4_insert 104 = .ok (.invokespecial 69, 3) := by decide +kernel
theorem dX4_insert_107 : decode cX4_insert 107 = .ok (.aastore, 1) := by decide +kernel
theorem dX4_insert_108 : decode cX4_insert 108 = .ok (.aload_n 0, 1) := by decide +kernel
theorem dX4_insert_109 : decode cX4_insert 109 = .ok (.dup, 1) := by decide +kernel
theorem dX4_insert_110 : decode cX4_insert 110 = .ok (.getfield 61, 3) := by decide +kernel
theorem dX4_insert_113 : decode cX4_insert 113 = .ok (.iconst 1, 1) := by decide +kernel
theorem dX4_insert_114 : decode cX4_insert 114 = .ok (.iadd, 1) := by decide +kernel
theorem dX4_insert_115 : decode cX4_insert 115 = .ok (.putfield 61, 3) := by decide +kernel
theorem dX4_insert_118 : decode cX4_insert 118 = .ok (.aload_n 0, 1) := by decide +kernel
theorem dX4_insert_119 : decode cX4_insert 119 = .ok (.dup, 1) := by decide +kernel
theorem dX4_insert_120 : decode cX4_insert 120 = .ok (.getfield 47, 3) := by decide +kernel
theorem dX4_insert_123 : decode cX4_insert 123 = .ok (.iconst 1, 1) := by decide +kernel
theorem dX4_insert_124 : decode cX4_insert 124 = .ok (.iadd, 1) := by decide +kernel
theorem dX4_insert_125 : decode cX4_insert 125 = .ok (.putfield 47, 3) := by decide +kernel
theorem dX4_insert_128 : decode cX4_insert 128 = .ok (.aload_n 0, 1) := by decide +kernel
theorem dX4_insert_129 : decode cX4_insert 129 = .ok (.getfield 47, 3) := by decide +kernel
theorem dX4_insert_132 : decode cX4_insert 132 = .ok (.ireturn, 1) := by decide +kernel
theorem dX4_remove_0 : decode cX4_remove 0 = .ok (.aload_n 0, 1) := by decide +kernel
theorem dX4_remove_1 : decode cX4_remove 1 = .ok (.iload_n 1, 1) := by decide +kernel
theorem dX4_remove_2 : decode cX4_remove 2 = .ok (.invokevirtual 72, 3) := by decide +kernel
theorem dX4_remove_5 : decode cX4_remove 5 = .ok (.aload_n 0, 1) := by decide +kernel
theorem dX4_remove_6 : decode cX4_remove 6 = .ok (.iload_n 1, 1) := by decide +kernel
theorem dX4_remove_7 : decode cX4_remove 7 = .ok (.invokevirtual 76, 3) := by decide +kernel
theorem dX4_remove_10 : decode cX4_remove 10 = .ok (.aload_n 0, 1) := by decide +kernel
theorem dX4_remove_11 : decode cX4_remove 11 = .ok (.dup, 1) := by decide +kernel
theorem dX4_remove_12 : decode cX4_remove 12 = .ok (.getfield 47, 3) := by decide +kernel
theorem dX4_remove_15 : decode cX4_remove 15 = .ok (.iconst 1, 1) := by decide +kernel
theorem dX4_remove_16 : decode cX4_remove 16 = .ok (.isub, 1) := by decide +kernel
theorem dX4_remove_17 : decode cX4_remove 17 = .ok (.putfield 47, 3) := by decide +kernel
theorem dX4_remove_20 : decode cX4_remove 20 = .ok (.aload_n 0, 1) := by decide +kernel
theorem dX4_remove_21 : decode cX4_remove 21 = .ok (.getfield 11, 3) := by decide +kernel
theorem dX4_remove_24 : decode cX4_remove 24 = .ok (.aload_n 0, 1) := by decide +kernel
theorem dX4_remove_25 : decode cX4_remove 25 = .ok (.getfield 47, 3) := by decide +kernel
theorem dX4_remove_28 : decode cX4_remove 28 = .ok (.aconst_null, 1) := by decide +kernel
theorem dX4_remove_29 : decode cX4_remove 29 = .ok (.aastore, 1) := by decide +kernel
theorem dX4_remove_30 : decode cX4_remove 30 = .ok (.aload_n 0, 1) := by decide +kernel
theorem dX4_remove_31 : decode cX4_remove 31 = .ok (.getfield 47, 3) := by decide +kernel
theorem dX4_remove_34 : decode cX4_remove 34 = .ok (.ireturn, 1) := by decide +kernel
theorem dX4_move_0 : decode cX4_move 0 = .ok (.aload_n 0, 1) := by decide +kernel
theorem dX4_move_1 : decode cX4_move 1 = .ok (.iload_n 1, 1) := by decide +kernel
theorem dX4_move_2 : decode cX4_move 2 = .ok (.invokevirtual 72, 3) := by decide +kernel
theorem dX4_move_5 : decode cX4_move 5 = .ok (.aload_n 0, 1) := by decide +kernel
theorem dX4_move_6 : decode cX4_move 6 = .ok (.iload_n 2, 1) := by decide +kernel
theorem dX4_move_7 : decode cX4_move 7 = .ok (.invokevirtual 72, 3) := by decide +kernel
theorem dX4_move_10 : decode cX4_move 10 = .ok (.aload_n 0, 1) := by decide +kernel
theorem dX4_move_11 : decode cX4_move 11 = .ok (.getfield 11, 3) := by decide +kernel
theorem dX4_move_14 : decode cX4_move 14 = .ok (.iload_n 1, 1) := by decide +kernel
theorem dX4_move_15 : decode cX4_move 15 = .ok (.aaload, 1) := by decide +kernel
theorem dX4_move_16 : decode cX4_move 16 = .ok (.astore_n 3, 1) := by decide +kernel
theorem dX4_move_17 : decode cX4_move 17 = .ok (.aload_n 0, 1) := by decide +kernel
theorem dX4_move_18 : decode cX4_move 18 = .ok (.iload_n 1, 1) := by decide +kernel
theorem dX4_move_19 : decode cX4_move 19 = .ok (.invokevirtual 76, 3) := by decide +kernel
theorem dX4_move_22 : decode cX4_move 22 = .ok (.aload_n 0, 1) := by decide +kernel
theorem dX4_move_23 : decode cX4_move 23 = .ok (.getfield 47, 3) := by decide +kernel
theorem dX4_move_26 : decode cX4_move 26 = .ok (.iconst 1, 1) := by decide +kernel
theorem dX4_move_27 : decode cX4_move 27 = .ok (.isub, 1) := by decide +kernel
theorem dX4_move_28 : decode cX4_move 28 = .ok (.istore 4, 2) := by decide +kernel
theorem dX4_move_30 : decode cX4_move 30 = .ok (.iload 4, 2) := by decide +kernel
theorem dX4_move_32 : decode cX4_move 32 = .ok (.iload_n 2, 1) := by decide +kernel
theorem dX4_move_33 : decode cX4_move 33 = .ok (.if_icmp .le 25, 3) := by decide +kernel
theorem dX4_move_36 : decode cX4_move 36 = .ok (.aload_n 0, 1) := by decide +kernel
theorem dX4_move_37 : decode cX4_move 37 = .ok (.getfield 11, 3) := by decide +kernel
theorem dX4_move_40 : decode cX4_move 40 = .ok (.iload 4, 2) := by decide +kernel
theorem dX4_move_42 : decode cX4_move 42 = .ok (.aload_n 0, 1) := by decide +kernel
theorem dX4_move_43 : decode cX4_move 43 = .ok (.getfield 11, 3) := by decide +kernel
theorem dX4_move_46 : decode cX4_move 46 = .ok (.iload 4, 2) := by decide +kernel
theorem dX4_move_48 : decode cX4_move 48 = .ok (.iconst 1, 1) := by decide +kernel
theorem dX4_move_49 : decode cX4_move 49 = .ok (.isub, 1) := by decide +kernel
theorem dX4_move_50 : decode cX4_move 50 = .ok (.aaload, 1) := by decide +kernel
theorem dX4_move_51 : decode cX4_move 51 = .ok (.aastore, 1) := by decide +kernel
theorem dX4_move_52 : decode cX4_move 52 = .ok (.iinc 4 (-1), 3) := by decide +kernel
theorem dX4_move_55 : decode cX4_move 55 = .ok (.goto (-25), 3) := by decide +kernel
theorem dX4_move_58 : decode cX4_move 58 = .ok (.aload_n 0, 1) := by decide +kernel
theorem dX4_move_59 : decode cX4_move 59 = .ok (.getfield 11, 3) := by decide +kernel
theorem dX4_move_62 : decode cX4_move 62 = .ok (.iload_n 2, 1) := by decide +kernel
theorem dX4_move_63 : decode cX4_move 63 = .ok (.aload_n 3, 1) := by decide +kernel
theorem dX4_move_64 : decode cX4_move 64 = .ok (.aastore, 1) := by decide +kernel
theorem dX4_move_65 : decode cX4_move 65 = .ok (.return_, 1) := by decide +kernel
theorem dX4_edit_0 : decode cX4_edit 0 = .ok (.aload_n 0, 1) := by decide +kernel
theorem dX4_edit_1 : decode cX4_edit 1 = .ok (.iload_n 1, 1) := by decide +kernel
theorem dX4_edit_2 : decode cX4_edit 2 = .ok (.invokevirtual 72, 3) := by decide +kernel
theorem dX4_edit_5 : decode cX4_edit 5 = .ok (.iload_n 2, 1) := by decide +kernel
theorem dX4_edit_6 : decode cX4_edit 6 = .ok (.iload_n 3, 1) := by decide +kernel
theorem dX4_edit_7 : decode cX4_edit 7 = .ok (.invokestatic 58, 3) := by decide +kernel
theorem dX4_edit_10 : decode cX4_edit 10 = .ok (.aload_n 0, 1) := by decide +kernel
theorem dX4_edit_11 : decode cX4_edit 11 = .ok (.getfield 11, 3) := by decide +kernel
theorem dX4_edit_14 : decode cX4_edit 14 = .ok (.iload_n 1, 1) := by decide +kernel
theorem dX4_edit_15 : decode cX4_edit 15 = .ok (.aaload, 1) := by decide +kernel
theorem dX4_edit_16 : decode cX4_edit 16 = .ok (.iload_n 2, 1) := by decide +kernel
theorem dX4_edit_17 : decode cX4_edit 17 = .ok (.iload_n 3, 1) := by decide +kernel
theorem dX4_edit_18 : decode cX4_edit 18 = .ok (.invokevirtual 79, 3) := by decide +kernel
theorem dX4_edit_21 : decode cX4_edit 21 = .ok (.aload_n 0, 1) := by decide +kernel
theorem dX4_edit_22 : decode cX4_edit 22 = .ok (.getfield 11, 3) := by decide +kernel
theorem dX4_edit_25 : decode cX4_edit 25 = .ok (.iload_n 1, 1) := by decide +kernel
theorem dX4_edit_26 : decode cX4_edit 26 = .ok (.aaload, 1) := by decide +kernel
theorem dX4_edit_27 : decode cX4_edit 27 = .ok (.getfield 82, 3) := by decide +kernel
theorem dX4_edit_30 : decode cX4_edit 30 = .ok (.ireturn, 1) := by decide +kernel
theorem dX4_replace_0 : decode cX4_replace 0 = .ok (.iload_n 1, 1) := by decide +kernel
theorem dX4_replace_1 : decode cX4_replace 1 = .ok (.invokestatic 85, 3) := by decide +kernel
theorem dX4_replace_4 : decode cX4_replace 4 = .ok (.iload_n 2, 1) := by decide +kernel
theorem dX4_replace_5 : decode cX4_replace 5 = .ok (.invokestatic 85, 3) := by decide +kernel
theorem dX4_replace_8 : decode cX4_replace 8 = .ok (.iload_n 1, 1) := by decide +kernel
theorem dX4_replace_9 : decode cX4_replace 9 = .ok (.iload_n 2, 1) := by decide +kernel
theorem dX4_replace_10 : decode cX4_replace 10 = .ok (.if_icmp .ne 13, 3) := by decide +kernel
theorem dX4_replace_13 : decode cX4_replace 13 = .ok (.new 88, 3) := by decide +kernel
theorem dX4_replace_16 : decode cX4_replace 16 = .ok (.dup, 1) := by decide +kernel
theorem dX4_replace_17 : decode cX4_replace 17 = .ok (.ldc 90, 2) := by decide +kernel
theorem dX4_replace_19 : decode cX4_replace 19 = .ok (.invokespecial 92, 3) := by decide +kernel
theorem dX4_replace_22 : decode cX4_replace 22 = .ok (.athrow, 1) := by decide +kernel
theorem dX4_replace_23 : decode cX4_replace 23 = .ok (.iconst 0, 1) := by decide +kernel
theorem dX4_replace_24 : decode cX4_replace 24 = .ok (.istore_n 3, 1) := by decide +kernel
theorem dX4_replace_25 : decode cX4_replace 25 = .ok (.iconst 0, 1) := by decide +kernel
theorem dX4_replace_26 : decode cX4_replace 26 = .ok (.istore 4, 2) := by decide +kernel
theorem dX4_replace_28 : decode cX4_replace 28 = .ok (.iload 4, 2) := by decide +kernel
theorem dX4_replace_30 : decode cX4_replace 30 = .ok (.aload_n 0, 1) := by decide +kernel
theorem dX4_replace_31 : decode cX4_replace 31 = .ok (.getfield 47, 3) := by decide +kernel
theorem dX4_replace_34 : decode cX4_replace 34 = .ok (.if_icmp .ge 55, 3) := by decide +kernel
theorem dX4_replace_37 : decode cX4_replace 37 = .ok (.aload_n 0, 1) := by decide +kernel
theorem dX4_replace_38 : decode cX4_replace 38 = .ok (.getfield 11, 3) := by decide +kernel
theorem dX4_replace_41 : decode cX4_replace 41 = .ok (.iload 4, 2) := by decide +kernel
theorem dX4_replace_43 : decode cX4_replace 43 = .ok (.aaload, 1) := by decide +kernel
theorem dX4_replace_44 : decode cX4_replace 44 = .ok (.astore 5, 2) := by decide +kernel
theorem dX4_replace_46 : decode cX4_replace 46 = .ok (.aload 5, 2) := by decide +kernel
theorem dX4_replace_48 : decode cX4_replace 48 = .ok (.iload_n 1, 1) := by decide +kernel
theorem dX4_replace_49 : decode cX4_replace 49 = .ok (.invokevirtual 93, 3) := by decide +kernel
theorem dX4_replace_52 : decode cX4_replace 52 = .ok (.ifCond .eq 31, 3) := by decide +kernel
theorem dX4_replace_55 : decode cX4_replace 55 = .ok (.aload 5, 2) := by decide +kernel
theorem dX4_replace_57 : decode cX4_replace 57 = .ok (.aload 5, 2) := by decide +kernel
theorem dX4_replace_59 : decode cX4_replace 59 = .ok (.getfield 97, 3) := by decide +kernel
theorem dX4_replace_62 : decode cX4_replace 62 = .ok (.iconst 1, 1) := by decide +kernel
theorem dX4_replace_63 : decode cX4_replace 63 = .ok (.iload_n 1, 1) := by decide +kernel
theorem dX4_replace_64 : decode cX4_replace 64 = .ok (.ishl, 1) := by decide +kernel
theorem dX4_replace_65 : decode cX4_replace 65 = .ok (.iconst (-1), 1) := by decide +kernel
theorem dX4_replace_66 : decode cX4_replace 66 = .ok (.ixor, 1) := by decide +kernel
theorem dX4_replace_67 : decode cX4_replace 67 = .ok (.iand, 1) := by decide +kernel
theorem dX4_replace_68 : decode cX4_replace 68 = .ok (.iconst 1, 1) := by decide +kernel
theorem dX4_replace_69 : decode cX4_replace 69 = .ok (.iload_n 2, 1) := by decide +kernel
theorem dX4_replace_70 : decode cX4_replace 70 = .ok (.ishl, 1) := by decide +kernel
theorem dX4_replace_71 : decode cX4_replace 71 = .ok (.ior, 1) := by decide +kernel
theorem dX4_replace_72 : decode cX4_replace 72 = .ok (.aload 5, 2) := by decide +kernel
theorem dX4_replace_74 : decode cX4_replace 74 = .ok (.getfield 100, 3) := by decide +kernel
theorem dX4_replace_77 : decode cX4_replace 77 = .ok (.invokevirtual 79, 3) := by decide +kernel
theorem dX4_replace_80 : decode cX4_replace 80 = .ok (.iinc 3 1, 3) := by decide +kernel
theorem dX4_replace_83 : decode cX4_replace 83 = .ok (.iinc 4 1, 3) := by decide +kernel
theorem dX4_replace_86 : decode cX4_replace 86 = .ok (.goto (-58), 3) := by decide +kernel
theorem dX4_replace_89 : decode cX4_replace 89 = .ok (.iload_n 3, 1) := by decide +kernel
theorem dX4_replace_90 : decode cX4_replace 90 = .ok (.ireturn, 1) := by decide +kernel
theorem dX4_pages_0 : decode cX4_pages 0 = .ok (.aload_n 0, 1) := by decide +kernel
theorem dX4_pages_1 : decode cX4_pages 1 = .ok (.getfield 47, 3) := by decide +kernel
theorem dX4_pages_4 : decode cX4_pages 4 = .ok (.ireturn, 1) := by decide +kernel
theorem dX4_edition_0 : decode cX4_edition 0 = .ok (.aload_n 0, 1) := by decide +kernel
theorem dX4_edition_1 : decode cX4_edition 1 = .ok (.iload_n 1, 1) := by decide +kernel
theorem dX4_edition_2 : decode cX4_edition 2 = .ok (.invokevirtual 72, 3) := by decide +kernel
theorem dX4_edition_5 : decode cX4_edition 5 = .ok (.aload_n 0, 1) := by decide +kernel
theorem dX4_edition_6 : decode cX4_edition 6 = .ok (.getfield 11, 3) := by decide +kernel
theorem dX4_edition_9 : decode cX4_edition 9 = .ok (.iload_n 1, 1) := by decide +kernel
theorem dX4_edition_10 : decode cX4_edition 10 = .ok (.aaload, 1) := by decide +kernel
theorem dX4_edition_11 : decode cX4_edition 11 = .ok (.getfield 82, 3) := by decide +kernel
theorem dX4_edition_14 : decode cX4_edition 14 = .ok (.ireturn, 1) := by decide +kernel
theorem dX4_takeOut_0 : decode cX4_takeOut 0 = .ok (.iload_n 1, 1) := by decide +kernel
theorem dX4_takeOut_1 : decode cX4_takeOut 1 = .ok (.istore_n 2, 1) := by decide +kernel
theorem dX4_takeOut_2 : decode cX4_takeOut 2 = .ok (.iload_n 2, 1) := by decide +kernel
theorem dX4_takeOut_3 : decode cX4_takeOut 3 = .ok (.aload_n 0, 1) := by decide +kernel
theorem dX4_takeOut_4 : decode cX4_takeOut 4 = .ok (.getfield 47, 3) := by decide +kernel
theorem dX4_takeOut_7 : decode cX4_takeOut 7 = .ok (.iconst 1, 1) := by decide +kernel
theorem dX4_takeOut_8 : decode cX4_takeOut 8 = .ok (.isub, 1) := by decide +kernel
theorem dX4_takeOut_9 : decode cX4_takeOut 9 = .ok (.if_icmp .ge 23, 3) := by decide +kernel
theorem dX4_takeOut_12 : decode cX4_takeOut 12 = .ok (.aload_n 0, 1) := by decide +kernel
theorem dX4_takeOut_13 : decode cX4_takeOut 13 = .ok (.getfield 11, 3) := by decide +kernel
theorem dX4_takeOut_16 : decode cX4_takeOut 16 = .ok (.iload_n 2, 1) := by decide +kernel
theorem dX4_takeOut_17 : decode cX4_takeOut 17 = .ok (.aload_n 0, 1) := by decide +kernel
theorem dX4_takeOut_18 : decode cX4_takeOut 18 = .ok (.getfield 11, 3) := by decide +kernel
theorem dX4_takeOut_21 : decode cX4_takeOut 21 = .ok (.iload_n 2, 1) := by decide +kernel
theorem dX4_takeOut_22 : decode cX4_takeOut 22 = .ok (.iconst 1, 1) := by decide +kernel
theorem dX4_takeOut_23 : decode cX4_takeOut 23 = .ok (.iadd, 1) := by decide +kernel
theorem dX4_takeOut_24 : decode cX4_takeOut 24 = .ok (.aaload, 1) := by decide +kernel
theorem dX4_takeOut_25 : decode cX4_takeOut 25 = .ok (.aastore, 1) := by decide +kernel
theorem dX4_takeOut_26 : decode cX4_takeOut 26 = .ok (.iinc 2 1, 3) := by decide +kernel
theorem dX4_takeOut_29 : decode cX4_takeOut 29 = .ok (.goto (-27), 3) := by decide +kernel
theorem dX4_takeOut_32 : decode cX4_takeOut 32 = .ok (.return_, 1) := by decide +kernel
theorem dX4_checkPlace_0 : decode cX4_checkPlace 0 = .ok (.iload_n 1, 1) := by decide +kernel
theorem dX4_checkPlace_1 : decode cX4_checkPlace 1 = .ok (.ifCond .lt 11, 3) := by decide +kernel
theorem dX4_checkPlace_4 : decode cX4_checkPlace 4 = .ok (.iload_n 1, 1) := by decide +kernel
theorem dX4_checkPlace_5 : decode cX4_checkPlace 5 = .ok (.aload_n 0, 1) := by decide +kernel
theorem dX4_checkPlace_6 : decode cX4_checkPlace 6 = .ok (.getfield 47, 3) := by decide +kernel
theorem dX4_checkPlace_9 : decode cX4_checkPlace 9 = .ok (.if_icmp .lt 13, 3) := by decide +kernel
theorem dX4_checkPlace_12 : decode cX4_checkPlace 12 = .ok (.new 51, 3) := by decide +kernel
theorem dX4_checkPlace_15 : decode cX4_checkPlace 15 = .ok (.dup, 1) := by decide +kernel
theorem dX4_checkPlace_16 : decode cX4_checkPlace 16 = .ok (.ldc 103, 2) := by decide +kernel
theorem dX4_checkPlace_18 : decode cX4_checkPlace 18 = .ok (.invokespecial 55, 3) := by decide +kernel
theorem dX4_checkPlace_21 : decode cX4_checkPlace 21 = .ok (.athrow, 1) := by decide +kernel
theorem dX4_checkPlace_22 : decode cX4_checkPlace 22 = .ok (.return_, 1) := by decide +kernel
theorem dX4_checkFontsAndColors_0 : decode cX4_checkFontsAndColors 0 = .ok (.iload_n 0, 1) := by decide +kernel
theorem dX4_checkFontsAndColors_1 : decode cX4_checkFontsAndColors 1 = .ok (.ifCond .lt 10, 3) := by decide +kernel
theorem dX4_checkFontsAndColors_4 : decode cX4_checkFontsAndColors 4 = .ok (.iload_n 0, 1) := by decide +kernel
theorem dX4_checkFontsAndColors_5 : decode cX4_checkFontsAndColors 5 = .ok (.sipush 255, 3) := by decide +kernel
theorem dX4_checkFontsAndColors_8 : decode cX4_checkFontsAndColors 8 = .ok (.if_icmp .le 13, 3) := by decide +kernel
theorem dX4_checkFontsAndColors_11 : decode cX4_checkFontsAndColors 11 = .ok (.new 88, 3) := by decide +kernel
theorem dX4_checkFontsAndColors_14 : decode cX4_checkFontsAndColors 14 = .ok (.dup, 1) := by decide +kernel
theorem dX4_checkFontsAndColors_15 : decode cX4_checkFontsAndColors 15 = .ok (.ldc 105, 2) := by decide +kernel
theorem dX4_checkFontsAndColors_17 : decode cX4_checkFontsAndColors 17 = .ok (.invokespecial 92, 3) := by decide +kernel
theorem dX4_checkFontsAndColors_20 : decode cX4_checkFontsAndColors 20 = .ok (.athrow, 1) := by decide +kernel
theorem dX4_checkFontsAndColors_21 : decode cX4_checkFontsAndColors 21 = .ok (.iload_n 1, 1) := by decide +kernel
theorem dX4_checkFontsAndColors_22 : decode cX4_checkFontsAndColors 22 = .ok (.ifCond .lt 9, 3) := by decide +kernel
theorem dX4_checkFontsAndColors_25 : decode cX4_checkFontsAndColors 25 = .ok (.iload_n 1, 1) := by decide +kernel
theorem dX4_checkFontsAndColors_26 : decode cX4_checkFontsAndColors 26 = .ok (.bipush 15, 2) := by decide +kernel
theorem dX4_checkFontsAndColors_28 : decode cX4_checkFontsAndColors 28 = .ok (.if_icmp .le 13, 3) := by decide +kernel
theorem dX4_checkFontsAndColors_31 : decode cX4_checkFontsAndColors 31 = .ok (.new 88, 3) := by decide +kernel
theorem dX4_checkFontsAndColors_34 : decode cX4_checkFontsAndColors 34 = .ok (.dup, 1) := by decide +kernel
theorem dX4_checkFontsAndColors_35 : decode cX4_checkFontsAndColors 35 = .ok (.ldc 107, 2) := by decide +kernel
theorem dX4_checkFontsAndColors_37 : decode cX4_checkFontsAndColors 37 = .ok (.invokespecial 92, 3) := by decide +kernel
theorem dX4_checkFontsAndColors_40 : decode cX4_checkFontsAndColors 40 = .ok (.athrow, 1) := by decide +kernel
theorem dX4_checkFontsAndColors_41 : decode cX4_checkFontsAndColors 41 = .ok (.return_, 1) := by decide +kernel
theorem dX4_setFolds_0 : decode cX4_setFolds 0 = .ok (.iload_n 1, 1) := by decide +kernel
theorem dX4_setFolds_1 : decode cX4_setFolds 1 = .ok (.iconst 1, 1) := by decide +kernel
theorem dX4_setFolds_2 : decode cX4_setFolds 2 = .ok (.if_icmp .lt 8, 3) := by decide +kernel
theorem dX4_setFolds_5 : decode cX4_setFolds 5 = .ok (.iload_n 1, 1) := by decide +kernel
theorem dX4_setFolds_6 : decode cX4_setFolds 6 = .ok (.iconst 4, 1) := by decide +kernel
theorem dX4_setFolds_7 : decode cX4_setFolds 7 = .ok (.if_icmp .le 13, 3) := by decide +kernel
theorem dX4_setFolds_10 : decode cX4_setFolds 10 = .ok (.new 88, 3) := by decide +kernel
theorem dX4_setFolds_13 : decode cX4_setFolds 13 = .ok (.dup, 1) := by decide +kernel
theorem dX4_setFolds_14 : decode cX4_setFolds 14 = .ok (.ldc 109, 2) := by decide +kernel
theorem dX4_setFolds_16 : decode cX4_setFolds 16 = .ok (.invokespecial 92, 3) := by decide +kernel
theorem dX4_setFolds_19 : decode cX4_setFolds 19 = .ok (.athrow, 1) := by decide +kernel
theorem dX4_setFolds_20 : decode cX4_setFolds 20 = .ok (.iload_n 2, 1) := by decide +kernel
theorem dX4_setFolds_21 : decode cX4_setFolds 21 = .ok (.ifCond .lt 12, 3) := by decide +kernel
theorem dX4_setFolds_24 : decode cX4_setFolds 24 = .ok (.iload_n 2, 1) := by decide +kernel
theorem dX4_setFolds_25 : decode cX4_setFolds 25 = .ok (.iconst 1, 1) := by decide +kernel
theorem dX4_setFolds_26 : decode cX4_setFolds 26 = .ok (.iconst 2, 1) := by decide +kernel
theorem dX4_setFolds_27 : decode cX4_setFolds 27 = .ok (.iload_n 1, 1) := by decide +kernel
theorem dX4_setFolds_28 : decode cX4_setFolds 28 = .ok (.imul, 1) := by decide +kernel
theorem dX4_setFolds_29 : decode cX4_setFolds 29 = .ok (.ishl, 1) := by decide +kernel
theorem dX4_setFolds_30 : decode cX4_setFolds 30 = .ok (.if_icmp .lt 13, 3) := by decide +kernel
theorem dX4_setFolds_33 : decode cX4_setFolds 33 = .ok (.new 88, 3) := by decide +kernel
theorem dX4_setFolds_36 : decode cX4_setFolds 36 = .ok (.dup, 1) := by decide +kernel
theorem dX4_setFolds_37 : decode cX4_setFolds 37 = .ok (.ldc 111, 2) := by decide +kernel
theorem dX4_setFolds_39 : decode cX4_setFolds 39 = .ok (.invokespecial 92, 3) := by decide +kernel
theorem dX4_setFolds_42 : decode cX4_setFolds 42 = .ok (.athrow, 1) := by decide +kernel
theorem dX4_setFolds_43 : decode cX4_setFolds 43 = .ok (.aload_n 0, 1) := by decide +kernel
theorem dX4_setFolds_44 : decode cX4_setFolds 44 = .ok (.getfield 18, 3) := by decide +kernel
theorem dX4_setFolds_47 : decode cX4_setFolds 47 = .ok (.iload_n 1, 1) := by decide +kernel
theorem dX4_setFolds_48 : decode cX4_setFolds 48 = .ok (.iload_n 2, 1) := by decide +kernel
theorem dX4_setFolds_49 : decode cX4_setFolds 49 = .ok (.invokevirtual 22, 3) := by decide +kernel
theorem dX4_setFolds_52 : decode cX4_setFolds 52 = .ok (.aload_n 0, 1) := by decide +kernel
theorem dX4_setFolds_53 : decode cX4_setFolds 53 = .ok (.invokevirtual 113, 3) := by decide +kernel
theorem dX4_setFolds_56 : decode cX4_setFolds 56 = .ok (.ireturn, 1) := by decide +kernel
theorem dX4_sheets_0 : decode cX4_sheets 0 = .ok (.aload_n 0, 1) := by decide +kernel
theorem dX4_sheets_1 : decode cX4_sheets 1 = .ok (.invokevirtual 113, 3) := by decide +kernel
theorem dX4_sheets_4 : decode cX4_sheets 4 = .ok (.ireturn, 1) := by decide +kernel
theorem dX4_rows_0 : decode cX4_rows 0 = .ok (.aload_n 0, 1) := by decide +kernel
theorem dX4_rows_1 : decode cX4_rows 1 = .ok (.getfield 18, 3) := by decide +kernel
theorem dX4_rows_4 : decode cX4_rows 4 = .ok (.getfield 117, 3) := by decide +kernel
theorem dX4_rows_7 : decode cX4_rows 7 = .ok (.ireturn, 1) := by decide +kernel
theorem dX4_columns_0 : decode cX4_columns 0 = .ok (.aload_n 0, 1) := by decide +kernel
theorem dX4_columns_1 : decode cX4_columns 1 = .ok (.getfield 18, 3) := by decide +kernel
theorem dX4_columns_4 : decode cX4_columns 4 = .ok (.getfield 120, 3) := by decide +kernel
theorem dX4_columns_7 : decode cX4_columns 7 = .ok (.ireturn, 1) := by decide +kernel
theorem dX4_pageAt_0 : decode cX4_pageAt 0 = .ok (.aload_n 0, 1) := by decide +kernel
theorem dX4_pageAt_1 : decode cX4_pageAt 1 = .ok (.iload_n 1, 1) := by decide +kernel
theorem dX4_pageAt_2 : decode cX4_pageAt 2 = .ok (.iload_n 2, 1) := by decide +kernel
theorem dX4_pageAt_3 : decode cX4_pageAt 3 = .ok (.iload_n 3, 1) := by decide +kernel
theorem dX4_pageAt_4 : decode cX4_pageAt 4 = .ok (.iload 4, 2) := by decide +kernel
theorem dX4_pageAt_6 : decode cX4_pageAt 6 = .ok (.invokevirtual 123, 3) := by decide +kernel
theorem dX4_pageAt_9 : decode cX4_pageAt 9 = .ok (.iload_n 3, 1) := by decide +kernel
theorem dX4_pageAt_10 : decode cX4_pageAt 10 = .ok (.aload_n 0, 1) := by decide +kernel
theorem dX4_pageAt_11 : decode cX4_pageAt 11 = .ok (.getfield 18, 3) := by decide +kernel
theorem dX4_pageAt_14 : decode cX4_pageAt 14 = .ok (.getfield 120, 3) := by decide +kernel
theorem dX4_pageAt_17 : decode cX4_pageAt 17 = .ok (.imul, 1) := by decide +kernel
theorem dX4_pageAt_18 : decode cX4_pageAt 18 = .ok (.iload 4, 2) := by decide +kernel
theorem dX4_pageAt_20 : decode cX4_pageAt 20 = .ok (.iadd, 1) := by decide +kernel
theorem dX4_pageAt_21 : decode cX4_pageAt 21 = .ok (.istore 5, 2) := by decide +kernel
theorem dX4_pageAt_23 : decode cX4_pageAt 23 = .ok (.aload_n 0, 1) := by decide +kernel
theorem dX4_pageAt_24 : decode cX4_pageAt 24 = .ok (.iload_n 1, 1) := by decide +kernel
theorem dX4_pageAt_25 : decode cX4_pageAt 25 = .ok (.aload_n 0, 1) := by decide +kernel
theorem dX4_pageAt_26 : decode cX4_pageAt 26 = .ok (.getfield 18, 3) := by decide +kernel
theorem dX4_pageAt_29 : decode cX4_pageAt 29 = .ok (.getfield 127, 3) := by decide +kernel
theorem dX4_pageAt_32 : decode cX4_pageAt 32 = .ok (.iload 5, 2) := by decide +kernel
theorem dX4_pageAt_34 : decode cX4_pageAt 34 = .ok (.iload_n 2, 1) := by decide +kernel
theorem dX4_pageAt_35 : decode cX4_pageAt 35 = .ok (.invokestatic 131, 3) := by decide +kernel
theorem dX4_pageAt_38 : decode cX4_pageAt 38 = .ok (.iaload, 1) := by decide +kernel
theorem dX4_pageAt_39 : decode cX4_pageAt 39 = .ok (.invokevirtual 135, 3) := by decide +kernel
theorem dX4_pageAt_42 : decode cX4_pageAt 42 = .ok (.ireturn, 1) := by decide +kernel
theorem dX4_pageByRule_0 : decode cX4_pageByRule 0 = .ok (.aload_n 0, 1) := by decide +kernel
theorem dX4_pageByRule_1 : decode cX4_pageByRule 1 = .ok (.iload_n 1, 1) := by decide +kernel
theorem dX4_pageByRule_2 : decode cX4_pageByRule 2 = .ok (.iload_n 2, 1) := by decide +kernel
theorem dX4_pageByRule_3 : decode cX4_pageByRule 3 = .ok (.iload_n 3, 1) := by decide +kernel
theorem dX4_pageByRule_4 : decode cX4_pageByRule 4 = .ok (.iload 4, 2) := by decide +kernel
theorem dX4_pageByRule_6 : decode cX4_pageByRule 6 = .ok (.invokevirtual 123, 3) := by decide +kernel
theorem dX4_pageByRule_9 : decode cX4_pageByRule 9 = .ok (.aload_n 0, 1) := by decide +kernel
theorem dX4_pageByRule_10 : decode cX4_pageByRule 10 = .ok (.iload_n 1, 1) := by decide +kernel
theorem dX4_pageByRule_11 : decode cX4_pageByRule 11 = .ok (.aload_n 0, 1) := by decide +kernel
theorem dX4_pageByRule_12 : decode cX4_pageByRule 12 = .ok (.getfield 18, 3) := by decide +kernel
theorem dX4_pageByRule_15 : decode cX4_pageByRule 15 = .ok (.iload_n 2, 1) := by decide +kernel
theorem dX4_pageByRule_16 : decode cX4_pageByRule 16 = .ok (.iload_n 3, 1) := by decide +kernel
theorem dX4_pageByRule_17 : decode cX4_pageByRule 17 = .ok (.iload 4, 2) := by decide +kernel
theorem dX4_pageByRule_19 : decode cX4_pageByRule 19 = .ok (.invokevirtual 138, 3) := by decide +kernel
theorem dX4_pageByRule_22 : decode cX4_pageByRule 22 = .ok (.invokevirtual 135, 3) := by decide +kernel
theorem dX4_pageByRule_25 : decode cX4_pageByRule 25 = .ok (.ireturn, 1) := by decide +kernel
theorem dX4_leafOf_0 : decode cX4_leafOf 0 = .ok (.aload_n 0, 1) := by decide +kernel
theorem dX4_leafOf_1 : decode cX4_leafOf 1 = .ok (.iload_n 1, 1) := by decide +kernel
theorem dX4_leafOf_2 : decode cX4_leafOf 2 = .ok (.invokevirtual 72, 3) := by decide +kernel
theorem dX4_leafOf_5 : decode cX4_leafOf 5 = .ok (.aload_n 0, 1) := by decide +kernel
theorem dX4_leafOf_6 : decode cX4_leafOf 6 = .ok (.iload_n 1, 1) := by decide +kernel
theorem dX4_leafOf_7 : decode cX4_leafOf 7 = .ok (.invokevirtual 142, 3) := by decide +kernel
theorem dX4_leafOf_10 : decode cX4_leafOf 10 = .ok (.istore_n 2, 1) := by decide +kernel
theorem dX4_leafOf_11 : decode cX4_leafOf 11 = .ok (.iload_n 2, 1) := by decide +kernel
theorem dX4_leafOf_12 : decode cX4_leafOf 12 = .ok (.invokestatic 146, 3) := by decide +kernel
theorem dX4_leafOf_15 : decode cX4_leafOf 15 = .ok (.bipush 16, 2) := by decide +kernel
theorem dX4_leafOf_17 : decode cX4_leafOf 17 = .ok (.imul, 1) := by decide +kernel
theorem dX4_leafOf_18 : decode cX4_leafOf 18 = .ok (.iload_n 2, 1) := by decide +kernel
theorem dX4_leafOf_19 : decode cX4_leafOf 19 = .ok (.invokestatic 149, 3) := by decide +kernel
theorem dX4_leafOf_22 : decode cX4_leafOf 22 = .ok (.iadd, 1) := by decide +kernel
theorem dX4_leafOf_23 : decode cX4_leafOf 23 = .ok (.ireturn, 1) := by decide +kernel
theorem dX4_isTurned_0 : decode cX4_isTurned 0 = .ok (.aload_n 0, 1) := by decide +kernel
theorem dX4_isTurned_1 : decode cX4_isTurned 1 = .ok (.iload_n 1, 1) := by decide +kernel
theorem dX4_isTurned_2 : decode cX4_isTurned 2 = .ok (.invokevirtual 72, 3) := by decide +kernel
theorem dX4_isTurned_5 : decode cX4_isTurned 5 = .ok (.aload_n 0, 1) := by decide +kernel
theorem dX4_isTurned_6 : decode cX4_isTurned 6 = .ok (.getfield 18, 3) := by decide +kernel
theorem dX4_isTurned_9 : decode cX4_isTurned 9 = .ok (.getfield 152, 3) := by decide +kernel
theorem dX4_isTurned_12 : decode cX4_isTurned 12 = .ok (.aload_n 0, 1) := by decide +kernel
theorem dX4_isTurned_13 : decode cX4_isTurned 13 = .ok (.iload_n 1, 1) := by decide +kernel
theorem dX4_isTurned_14 : decode cX4_isTurned 14 = .ok (.invokevirtual 142, 3) := by decide +kernel
theorem dX4_isTurned_17 : decode cX4_isTurned 17 = .ok (.invokestatic 149, 3) := by decide +kernel
theorem dX4_isTurned_20 : decode cX4_isTurned 20 = .ok (.baload, 1) := by decide +kernel
theorem dX4_isTurned_21 : decode cX4_isTurned 21 = .ok (.ireturn, 1) := by decide +kernel
theorem dX4_sheetCount_0 : decode cX4_sheetCount 0 = .ok (.aload_n 0, 1) := by decide +kernel
theorem dX4_sheetCount_1 : decode cX4_sheetCount 1 = .ok (.getfield 47, 3) := by decide +kernel
theorem dX4_sheetCount_4 : decode cX4_sheetCount 4 = .ok (.aload_n 0, 1) := by decide +kernel
theorem dX4_sheetCount_5 : decode cX4_sheetCount 5 = .ok (.getfield 18, 3) := by decide +kernel
theorem dX4_sheetCount_8 : decode cX4_sheetCount 8 = .ok (.invokevirtual 155, 3) := by decide +kernel
theorem dX4_sheetCount_11 : decode cX4_sheetCount 11 = .ok (.iadd, 1) := by decide +kernel
theorem dX4_sheetCount_12 : decode cX4_sheetCount 12 = .ok (.iconst 1, 1) := by decide +kernel
theorem dX4_sheetCount_13 : decode cX4_sheetCount 13 = .ok (.isub, 1) := by decide +kernel
theorem dX4_sheetCount_14 : decode cX4_sheetCount 14 = .ok (.aload_n 0, 1) := by decide +kernel
theorem dX4_sheetCount_15 : decode cX4_sheetCount 15 = .ok (.getfield 18, 3) := by decide +kernel
theorem dX4_sheetCount_18 : decode cX4_sheetCount 18 = .ok (.invokevirtual 158, 3) := by decide +kernel
theorem dX4_sheetCount_21 : decode cX4_sheetCount 21 = .ok (.ishr, 1) := by decide +kernel
theorem dX4_sheetCount_22 : decode cX4_sheetCount 22 = .ok (.ireturn, 1) := by decide +kernel
theorem dX4_placeOn_0 : decode cX4_placeOn 0 = .ok (.iload_n 1, 1) := by decide +kernel
theorem dX4_placeOn_1 : decode cX4_placeOn 1 = .ok (.aload_n 0, 1) := by decide +kernel
theorem dX4_placeOn_2 : decode cX4_placeOn 2 = .ok (.getfield 18, 3) := by decide +kernel
theorem dX4_placeOn_5 : decode cX4_placeOn 5 = .ok (.invokevirtual 158, 3) := by decide +kernel
theorem dX4_placeOn_8 : decode cX4_placeOn 8 = .ok (.ishl, 1) := by decide +kernel
theorem dX4_placeOn_9 : decode cX4_placeOn 9 = .ok (.iload_n 2, 1) := by decide +kernel
theorem dX4_placeOn_10 : decode cX4_placeOn 10 = .ok (.iadd, 1) := by decide +kernel
theorem dX4_placeOn_11 : decode cX4_placeOn 11 = .ok (.istore_n 3, 1) := by decide +kernel
theorem dX4_placeOn_12 : decode cX4_placeOn 12 = .ok (.iload_n 3, 1) := by decide +kernel
theorem dX4_placeOn_13 : decode cX4_placeOn 13 = .ok (.aload_n 0, 1) := by decide +kernel
theorem dX4_placeOn_14 : decode cX4_placeOn 14 = .ok (.getfield 47, 3) := by decide +kernel
theorem dX4_placeOn_17 : decode cX4_placeOn 17 = .ok (.if_icmp .ge 7, 3) := by decide +kernel
theorem dX4_placeOn_20 : decode cX4_placeOn 20 = .ok (.iload_n 3, 1) := by decide +kernel
theorem dX4_placeOn_21 : decode cX4_placeOn 21 = .ok (.goto 4, 3) := by decide +kernel
theorem dX4_placeOn_24 : decode cX4_placeOn 24 = .ok (.iconst (-1), 1) := by decide +kernel
theorem dX4_placeOn_25 : decode cX4_placeOn 25 = .ok (.ireturn, 1) := by decide +kernel
theorem dX4_faceOfPage_0 : decode cX4_faceOfPage 0 = .ok (.aload_n 0, 1) := by decide +kernel
theorem dX4_faceOfPage_1 : decode cX4_faceOfPage 1 = .ok (.getfield 18, 3) := by decide +kernel
theorem dX4_faceOfPage_4 : decode cX4_faceOfPage 4 = .ok (.getfield 161, 3) := by decide +kernel
theorem dX4_faceOfPage_7 : decode cX4_faceOfPage 7 = .ok (.iload_n 1, 1) := by decide +kernel
theorem dX4_faceOfPage_8 : decode cX4_faceOfPage 8 = .ok (.aload_n 0, 1) := by decide +kernel
theorem dX4_faceOfPage_9 : decode cX4_faceOfPage 9 = .ok (.getfield 18, 3) := by decide +kernel
theorem dX4_faceOfPage_12 : decode cX4_faceOfPage 12 = .ok (.invokevirtual 155, 3) := by decide +kernel
theorem dX4_faceOfPage_15 : decode cX4_faceOfPage 15 = .ok (.iconst 1, 1) := by decide +kernel
theorem dX4_faceOfPage_16 : decode cX4_faceOfPage 16 = .ok (.isub, 1) := by decide +kernel
theorem dX4_faceOfPage_17 : decode cX4_faceOfPage 17 = .ok (.iand, 1) := by decide +kernel
theorem dX4_faceOfPage_18 : decode cX4_faceOfPage 18 = .ok (.iaload, 1) := by decide +kernel
theorem dX4_faceOfPage_19 : decode cX4_faceOfPage 19 = .ok (.ireturn, 1) := by decide +kernel
theorem dX4_checkLeafSide_0 : decode cX4_checkLeafSide 0 = .ok (.aload_n 0, 1) := by decide +kernel
theorem dX4_checkLeafSide_1 : decode cX4_checkLeafSide 1 = .ok (.iload_n 1, 1) := by decide +kernel
theorem dX4_checkLeafSide_2 : decode cX4_checkLeafSide 2 = .ok (.invokevirtual 164, 3) := by decide +kernel
theorem dX4_checkLeafSide_5 : decode cX4_checkLeafSide 5 = .ok (.iload_n 3, 1) := by decide +kernel
theorem dX4_checkLeafSide_6 : decode cX4_checkLeafSide 6 = .ok (.ifCond .lt 14, 3) := by decide +kernel
theorem dX4_checkLeafSide_9 : decode cX4_checkLeafSide 9 = .ok (.iload_n 3, 1) := by decide +kernel
theorem dX4_checkLeafSide_10 : decode cX4_checkLeafSide 10 = .ok (.aload_n 0, 1) := by decide +kernel
theorem dX4_checkLeafSide_11 : decode cX4_checkLeafSide 11 = .ok (.getfield 18, 3) := by decide +kernel
theorem dX4_checkLeafSide_14 : decode cX4_checkLeafSide 14 = .ok (.getfield 117, 3) := by decide +kernel
theorem dX4_checkLeafSide_17 : decode cX4_checkLeafSide 17 = .ok (.if_icmp .lt 13, 3) := by decide +kernel
theorem dX4_checkLeafSide_20 : decode cX4_checkLeafSide 20 = .ok (.new 51, 3) := by decide +kernel
theorem dX4_checkLeafSide_23 : decode cX4_checkLeafSide 23 = .ok (.dup, 1) := by decide +kernel
theorem dX4_checkLeafSide_24 : decode cX4_checkLeafSide 24 = .ok (.ldc 167, 2) := by decide +kernel
theorem dX4_checkLeafSide_26 : decode cX4_checkLeafSide 26 = .ok (.invokespecial 55, 3) := by decide +kernel
theorem dX4_checkLeafSide_29 : decode cX4_checkLeafSide 29 = .ok (.athrow, 1) := by decide +kernel
theorem dX4_checkLeafSide_30 : decode cX4_checkLeafSide 30 = .ok (.iload 4, 2) := by decide +kernel
theorem dX4_checkLeafSide_32 : decode cX4_checkLeafSide 32 = .ok (.ifCond .lt 15, 3) := by decide +kernel
theorem dX4_checkLeafSide_35 : decode cX4_checkLeafSide 35 = .ok (.iload 4, 2) := by decide +kernel
theorem dX4_checkLeafSide_37 : decode cX4_checkLeafSide 37 = .ok (.aload_n 0, 1) := by decide +kernel
theorem dX4_checkLeafSide_38 : decode cX4_checkLeafSide 38 = .ok (.getfield 18, 3) := by decide +kernel
theorem dX4_checkLeafSide_41 : decode cX4_checkLeafSide 41 = .ok (.getfield 120, 3) := by decide +kernel
theorem dX4_checkLeafSide_44 : decode cX4_checkLeafSide 44 = .ok (.if_icmp .lt 13, 3) := by decide +kernel
theorem dX4_checkLeafSide_47 : decode cX4_checkLeafSide 47 = .ok (.new 51, 3) := by decide +kernel
theorem dX4_checkLeafSide_50 : decode cX4_checkLeafSide 50 = .ok (.dup, 1) := by decide +kernel
theorem dX4_checkLeafSide_51 : decode cX4_checkLeafSide 51 = .ok (.ldc 169, 2) := by decide +kernel
theorem dX4_checkLeafSide_53 : decode cX4_checkLeafSide 53 = .ok (.invokespecial 55, 3) := by decide +kernel
theorem dX4_checkLeafSide_56 : decode cX4_checkLeafSide 56 = .ok (.athrow, 1) := by decide +kernel
theorem dX4_checkLeafSide_57 : decode cX4_checkLeafSide 57 = .ok (.iload_n 2, 1) := by decide +kernel
theorem dX4_checkLeafSide_58 : decode cX4_checkLeafSide 58 = .ok (.invokestatic 171, 3) := by decide +kernel
theorem dX4_checkLeafSide_61 : decode cX4_checkLeafSide 61 = .ok (.return_, 1) := by decide +kernel
theorem dX4_checkSheet_0 : decode cX4_checkSheet 0 = .ok (.iload_n 1, 1) := by decide +kernel
theorem dX4_checkSheet_1 : decode cX4_checkSheet 1 = .ok (.ifCond .lt 11, 3) := by decide +kernel
theorem dX4_checkSheet_4 : decode cX4_checkSheet 4 = .ok (.iload_n 1, 1) := by decide +kernel
theorem dX4_checkSheet_5 : decode cX4_checkSheet 5 = .ok (.aload_n 0, 1) := by decide +kernel
theorem dX4_checkSheet_6 : decode cX4_checkSheet 6 = .ok (.invokevirtual 113, 3) := by decide +kernel
theorem dX4_checkSheet_9 : decode cX4_checkSheet 9 = .ok (.if_icmp .lt 13, 3) := by decide +kernel
theorem dX4_checkSheet_12 : decode cX4_checkSheet 12 = .ok (.new 51, 3) := by decide +kernel
theorem dX4_checkSheet_15 : decode cX4_checkSheet 15 = .ok (.dup, 1) := by decide +kernel
theorem dX4_checkSheet_16 : decode cX4_checkSheet 16 = .ok (.ldc 174, 2) := by decide +kernel
theorem dX4_checkSheet_18 : decode cX4_checkSheet 18 = .ok (.invokespecial 55, 3) := by decide +kernel
theorem dX4_checkSheet_21 : decode cX4_checkSheet 21 = .ok (.athrow, 1) := by decide +kernel
theorem dX4_checkSheet_22 : decode cX4_checkSheet 22 = .ok (.return_, 1) := by decide +kernel
theorem dX4_checkSide_0 : decode cX4_checkSide 0 = .ok (.iload_n 0, 1) := by decide +kernel
theorem dX4_checkSide_1 : decode cX4_checkSide 1 = .ok (.ifCond .lt 8, 3) := by decide +kernel
theorem dX4_checkSide_4 : decode cX4_checkSide 4 = .ok (.iload_n 0, 1) := by decide +kernel
theorem dX4_checkSide_5 : decode cX4_checkSide 5 = .ok (.iconst 2, 1) := by decide +kernel
theorem dX4_checkSide_6 : decode cX4_checkSide 6 = .ok (.if_icmp .lt 13, 3) := by decide +kernel
theorem dX4_checkSide_9 : decode cX4_checkSide 9 = .ok (.new 88, 3) := by decide +kernel
theorem dX4_checkSide_12 : decode cX4_checkSide 12 = .ok (.dup, 1) := by decide +kernel
theorem dX4_checkSide_13 : decode cX4_checkSide 13 = .ok (.ldc 176, 2) := by decide +kernel
theorem dX4_checkSide_15 : decode cX4_checkSide 15 = .ok (.invokespecial 92, 3) := by decide +kernel
theorem dX4_checkSide_18 : decode cX4_checkSide 18 = .ok (.athrow, 1) := by decide +kernel
theorem dX4_checkSide_19 : decode cX4_checkSide 19 = .ok (.return_, 1) := by decide +kernel
theorem dX4_faceOf_0 : decode cX4_faceOf 0 = .ok (.iload_n 0, 1) := by decide +kernel
theorem dX4_faceOf_1 : decode cX4_faceOf 1 = .ok (.iconst 2, 1) := by decide +kernel
theorem dX4_faceOf_2 : decode cX4_faceOf 2 = .ok (.imul, 1) := by decide +kernel
theorem dX4_faceOf_3 : decode cX4_faceOf 3 = .ok (.iload_n 1, 1) := by decide +kernel
theorem dX4_faceOf_4 : decode cX4_faceOf 4 = .ok (.iadd, 1) := by decide +kernel
theorem dX4_faceOf_5 : decode cX4_faceOf 5 = .ok (.ireturn, 1) := by decide +kernel
theorem dX4_leafUnder_0 : decode cX4_leafUnder 0 = .ok (.iload_n 0, 1) := by decide +kernel
theorem dX4_leafUnder_1 : decode cX4_leafUnder 1 = .ok (.iconst 1, 1) := by decide +kernel
theorem dX4_leafUnder_2 : decode cX4_leafUnder 2 = .ok (.ishr, 1) := by decide +kernel
theorem dX4_leafUnder_3 : decode cX4_leafUnder 3 = .ok (.ireturn, 1) := by decide +kernel
theorem dX4_sideOf_0 : decode cX4_sideOf 0 = .ok (.iload_n 0, 1) := by decide +kernel
theorem dX4_sideOf_1 : decode cX4_sideOf 1 = .ok (.iconst 1, 1) := by decide +kernel
theorem dX4_sideOf_2 : decode cX4_sideOf 2 = .ok (.iand, 1) := by decide +kernel
theorem dX4_sideOf_3 : decode cX4_sideOf 3 = .ok (.ireturn, 1) := by decide +kernel
theorem dX4_setRight_0 : decode cX4_setRight 0 = .ok (.iload_n 1, 1) := by decide +kernel
theorem dX4_setRight_1 : decode cX4_setRight 1 = .ok (.invokestatic 85, 3) := by decide +kernel
theorem dX4_setRight_4 : decode cX4_setRight 4 = .ok (.iload_n 2, 1) := by decide +kernel
theorem dX4_setRight_5 : decode cX4_setRight 5 = .ok (.ifCond .lt 10, 3) := by decide +kernel
theorem dX4_setRight_8 : decode cX4_setRight 8 = .ok (.iload_n 2, 1) := by decide +kernel
theorem dX4_setRight_9 : decode cX4_setRight 9 = .ok (.sipush 9999, 3) := by decide +kernel
theorem dX4_setRight_12 : decode cX4_setRight 12 = .ok (.if_icmp .le 13, 3) := by decide +kernel
theorem dX4_setRight_15 : decode cX4_setRight 15 = .ok (.new 88, 3) := by decide +kernel
theorem dX4_setRight_18 : decode cX4_setRight 18 = .ok (.dup, 1) := by decide +kernel
theorem dX4_setRight_19 : decode cX4_setRight 19 = .ok (.ldc 178, 2) := by decide +kernel
theorem dX4_setRight_21 : decode cX4_setRight 21 = .ok (.invokespecial 92, 3) := by decide +kernel
theorem dX4_setRight_24 : decode cX4_setRight 24 = .ok (.athrow, 1) := by decide +kernel
theorem dX4_setRight_25 : decode cX4_setRight 25 = .ok (.iload_n 3, 1) := by decide +kernel
theorem dX4_setRight_26 : decode cX4_setRight 26 = .ok (.iload_n 2, 1) := by decide +kernel
theorem dX4_setRight_27 : decode cX4_setRight 27 = .ok (.if_icmp .lt 10, 3) := by decide +kernel
theorem dX4_setRight_30 : decode cX4_setRight 30 = .ok (.iload_n 3, 1) := by decide +kernel
theorem dX4_setRight_31 : decode cX4_setRight 31 = .ok (.sipush 9999, 3) := by decide +kernel
theorem dX4_setRight_34 : decode cX4_setRight 34 = .ok (.if_icmp .le 13, 3) := by decide +kernel
theorem dX4_setRight_37 : decode cX4_setRight 37 = .ok (.new 88, 3) := by decide +kernel
theorem dX4_setRight_40 : decode cX4_setRight 40 = .ok (.dup, 1) := by decide +kernel
theorem dX4_setRight_41 : decode cX4_setRight 41 = .ok (.ldc 180, 2) := by decide +kernel
theorem dX4_setRight_43 : decode cX4_setRight 43 = .ok (.invokespecial 92, 3) := by decide +kernel
theorem dX4_setRight_46 : decode cX4_setRight 46 = .ok (.athrow, 1) := by decide +kernel
theorem dX4_setRight_47 : decode cX4_setRight 47 = .ok (.aload_n 0, 1) := by decide +kernel
theorem dX4_setRight_48 : decode cX4_setRight 48 = .ok (.invokevirtual 182, 3) := by decide +kernel
theorem dX4_setRight_51 : decode cX4_setRight 51 = .ok (.aload_n 0, 1) := by decide +kernel
theorem dX4_setRight_52 : decode cX4_setRight 52 = .ok (.iload_n 1, 1) := by decide +kernel
theorem dX4_setRight_53 : decode cX4_setRight 53 = .ok (.invokevirtual 185, 3) := by decide +kernel
theorem dX4_setRight_56 : decode cX4_setRight 56 = .ok (.istore 4, 2) := by decide +kernel
theorem dX4_setRight_58 : decode cX4_setRight 58 = .ok (.aload_n 0, 1) := by decide +kernel
theorem dX4_setRight_59 : decode cX4_setRight 59 = .ok (.getfield 28, 3) := by decide +kernel
theorem dX4_setRight_62 : decode cX4_setRight 62 = .ok (.iload_n 1, 1) := by decide +kernel
theorem dX4_setRight_63 : decode cX4_setRight 63 = .ok (.aaload, 1) := by decide +kernel
theorem dX4_setRight_64 : decode cX4_setRight 64 = .ok (.iload_n 2, 1) := by decide +kernel
theorem dX4_setRight_65 : decode cX4_setRight 65 = .ok (.iload_n 3, 1) := by decide +kernel
theorem dX4_setRight_66 : decode cX4_setRight 66 = .ok (.invokevirtual 188, 3) := by decide +kernel
theorem dX4_setRight_69 : decode cX4_setRight 69 = .ok (.aload_n 0, 1) := by decide +kernel
theorem dX4_setRight_70 : decode cX4_setRight 70 = .ok (.iload_n 1, 1) := by decide +kernel
theorem dX4_setRight_71 : decode cX4_setRight 71 = .ok (.iload 4, 2) := by decide +kernel
theorem dX4_setRight_73 : decode cX4_setRight 73 = .ok (.invokevirtual 191, 3) := by decide +kernel
theorem dX4_setRight_76 : decode cX4_setRight 76 = .ok (.aload_n 0, 1) := by decide +kernel
theorem dX4_setRight_77 : decode cX4_setRight 77 = .ok (.invokevirtual 195, 3) := by decide +kernel
theorem dX4_setRight_80 : decode cX4_setRight 80 = .ok (.ireturn, 1) := by decide +kernel
theorem dX4_withdraw_0 : decode cX4_withdraw 0 = .ok (.iload_n 1, 1) := by decide +kernel
theorem dX4_withdraw_1 : decode cX4_withdraw 1 = .ok (.invokestatic 85, 3) := by decide +kernel
theorem dX4_withdraw_4 : decode cX4_withdraw 4 = .ok (.aload_n 0, 1) := by decide +kernel
theorem dX4_withdraw_5 : decode cX4_withdraw 5 = .ok (.getfield 28, 3) := by decide +kernel
theorem dX4_withdraw_8 : decode cX4_withdraw 8 = .ok (.iload_n 1, 1) := by decide +kernel
theorem dX4_withdraw_9 : decode cX4_withdraw 9 = .ok (.aaload, 1) := by decide +kernel
theorem dX4_withdraw_10 : decode cX4_withdraw 10 = .ok (.getfield 198, 3) := by decide +kernel
theorem dX4_withdraw_13 : decode cX4_withdraw 13 = .ok (.ifCond .ne 13, 3) := by decide +kernel
theorem dX4_withdraw_16 : decode cX4_withdraw 16 = .ok (.new 64, 3) := by decide +kernel
theorem dX4_withdraw_19 : decode cX4_withdraw 19 = .ok (.dup, 1) := by decide +kernel
theorem dX4_withdraw_20 : decode cX4_withdraw 20 = .ok (.ldc 202, 2) := by decide +kernel
theorem dX4_withdraw_22 : decode cX4_withdraw 22 = .ok (.invokespecial 68, 3) := by decide +kernel
theorem dX4_withdraw_25 : decode cX4_withdraw 25 = .ok (.athrow, 1) := by decide +kernel
theorem dX4_withdraw_26 : decode cX4_withdraw 26 = .ok (.aload_n 0, 1) := by decide +kernel
theorem dX4_withdraw_27 : decode cX4_withdraw 27 = .ok (.invokevirtual 182, 3) := by decide +kernel
theorem dX4_withdraw_30 : decode cX4_withdraw 30 = .ok (.aload_n 0, 1) := by decide +kernel
theorem dX4_withdraw_31 : decode cX4_withdraw 31 = .ok (.iload_n 1, 1) := by decide +kernel
theorem dX4_withdraw_32 : decode cX4_withdraw 32 = .ok (.invokevirtual 185, 3) := by decide +kernel
theorem dX4_withdraw_35 : decode cX4_withdraw 35 = .ok (.istore_n 2, 1) := by decide +kernel
theorem dX4_withdraw_36 : decode cX4_withdraw 36 = .ok (.aload_n 0, 1) := by decide +kernel
theorem dX4_withdraw_37 : decode cX4_withdraw 37 = .ok (.getfield 28, 3) := by decide +kernel
theorem dX4_withdraw_40 : decode cX4_withdraw 40 = .ok (.iload_n 1, 1) := by decide +kernel
theorem dX4_withdraw_41 : decode cX4_withdraw 41 = .ok (.aaload, 1) := by decide +kernel
theorem dX4_withdraw_42 : decode cX4_withdraw 42 = .ok (.iconst 0, 1) := by decide +kernel
theorem dX4_withdraw_43 : decode cX4_withdraw 43 = .ok (.putfield 198, 3) := by decide +kernel
theorem dX4_withdraw_46 : decode cX4_withdraw 46 = .ok (.aload_n 0, 1) := by decide +kernel
theorem dX4_withdraw_47 : decode cX4_withdraw 47 = .ok (.iload_n 1, 1) := by decide +kernel
theorem dX4_withdraw_48 : decode cX4_withdraw 48 = .ok (.iload_n 2, 1) := by decide +kernel
theorem dX4_withdraw_49 : decode cX4_withdraw 49 = .ok (.invokevirtual 191, 3) := by decide +kernel
theorem dX4_withdraw_52 : decode cX4_withdraw 52 = .ok (.aload_n 0, 1) := by decide +kernel
theorem dX4_withdraw_53 : decode cX4_withdraw 53 = .ok (.invokevirtual 195, 3) := by decide +kernel
theorem dX4_withdraw_56 : decode cX4_withdraw 56 = .ok (.ireturn, 1) := by decide +kernel
theorem dX4_pass_0 : decode cX4_pass 0 = .ok (.iload_n 1, 1) := by decide +kernel
theorem dX4_pass_1 : decode cX4_pass 1 = .ok (.iconst 1, 1) := by decide +kernel
theorem dX4_pass_2 : decode cX4_pass 2 = .ok (.if_icmp .lt 9, 3) := by decide +kernel
theorem dX4_pass_5 : decode cX4_pass 5 = .ok (.iload_n 1, 1) := by decide +kernel
theorem dX4_pass_6 : decode cX4_pass 6 = .ok (.bipush 100, 2) := by decide +kernel
theorem dX4_pass_8 : decode cX4_pass 8 = .ok (.if_icmp .le 13, 3) := by decide +kernel
theorem dX4_pass_11 : decode cX4_pass 11 = .ok (.new 88, 3) := by decide +kernel
theorem dX4_pass_14 : decode cX4_pass 14 = .ok (.dup, 1) := by decide +kernel
theorem dX4_pass_15 : decode cX4_pass 15 = .ok (.ldc 204, 2) := by decide +kernel
theorem dX4_pass_17 : decode cX4_pass 17 = .ok (.invokespecial 92, 3) := by decide +kernel
theorem dX4_pass_20 : decode cX4_pass 20 = .ok (.athrow, 1) := by decide +kernel
theorem dX4_pass_21 : decode cX4_pass 21 = .ok (.aload_n 0, 1) := by decide +kernel
theorem dX4_pass_22 : decode cX4_pass 22 = .ok (.invokevirtual 182, 3) := by decide +kernel
theorem dX4_pass_25 : decode cX4_pass 25 = .ok (.iconst 0, 1) := by decide +kernel
theorem dX4_pass_26 : decode cX4_pass 26 = .ok (.istore_n 2, 1) := by decide +kernel
theorem dX4_pass_27 : decode cX4_pass 27 = .ok (.iload_n 2, 1) := by decide +kernel
theorem dX4_pass_28 : decode cX4_pass 28 = .ok (.iload_n 1, 1) := by decide +kernel
theorem dX4_pass_29 : decode cX4_pass 29 = .ok (.if_icmp .ge 13, 3) := by decide +kernel
theorem dX4_pass_32 : decode cX4_pass 32 = .ok (.aload_n 0, 1) := by decide +kernel
theorem dX4_pass_33 : decode cX4_pass 33 = .ok (.invokevirtual 206, 3) := by decide +kernel
theorem dX4_pass_36 : decode cX4_pass 36 = .ok (.iinc 2 1, 3) := by decide +kernel
theorem dX4_pass_39 : decode cX4_pass 39 = .ok (.goto (-12), 3) := by decide +kernel
theorem dX4_pass_42 : decode cX4_pass 42 = .ok (.aload_n 0, 1) := by decide +kernel
theorem dX4_pass_43 : decode cX4_pass 43 = .ok (.invokevirtual 195, 3) := by decide +kernel
theorem dX4_pass_46 : decode cX4_pass 46 = .ok (.ireturn, 1) := by decide +kernel
theorem dX4_today_0 : decode cX4_today 0 = .ok (.aload_n 0, 1) := by decide +kernel
theorem dX4_today_1 : decode cX4_today 1 = .ok (.getfield 209, 3) := by decide +kernel
theorem dX4_today_4 : decode cX4_today 4 = .ok (.ireturn, 1) := by decide +kernel
theorem dX4_mayUse_0 : decode cX4_mayUse 0 = .ok (.iload_n 1, 1) := by decide +kernel
theorem dX4_mayUse_1 : decode cX4_mayUse 1 = .ok (.invokestatic 85, 3) := by decide +kernel
theorem dX4_mayUse_4 : decode cX4_mayUse 4 = .ok (.aload_n 0, 1) := by decide +kernel
theorem dX4_mayUse_5 : decode cX4_mayUse 5 = .ok (.iload_n 1, 1) := by decide +kernel
theorem dX4_mayUse_6 : decode cX4_mayUse 6 = .ok (.invokevirtual 185, 3) := by decide +kernel
theorem dX4_mayUse_9 : decode cX4_mayUse 9 = .ok (.ireturn, 1) := by decide +kernel
theorem dX4_startNextDay_0 : decode cX4_startNextDay 0 = .ok (.aload_n 0, 1) := by decide +kernel
theorem dX4_startNextDay_1 : decode cX4_startNextDay 1 = .ok (.getfield 209, 3) := by decide +kernel
theorem dX4_startNextDay_4 : decode cX4_startNextDay 4 = .ok (.istore_n 1, 1) := by decide +kernel
theorem dX4_startNextDay_5 : decode cX4_startNextDay 5 = .ok (.aload_n 0, 1) := by decide +kernel
theorem dX4_startNextDay_6 : decode cX4_startNextDay 6 = .ok (.dup, 1) := by decide +kernel
theorem dX4_startNextDay_7 : decode cX4_startNextDay 7 = .ok (.getfield 209, 3) := by decide +kernel
theorem dX4_startNextDay_10 : decode cX4_startNextDay 10 = .ok (.iconst 1, 1) := by decide +kernel
theorem dX4_startNextDay_11 : decode cX4_startNextDay 11 = .ok (.iadd, 1) := by decide +kernel
theorem dX4_startNextDay_12 : decode cX4_startNextDay 12 = .ok (.putfield 209, 3) := by decide +kernel
theorem dX4_startNextDay_15 : decode cX4_startNextDay 15 = .ok (.iconst 0, 1) := by decide +kernel
theorem dX4_startNextDay_16 : decode cX4_startNextDay 16 = .ok (.istore_n 2, 1) := by decide +kernel
theorem dX4_startNextDay_17 : decode cX4_startNextDay 17 = .ok (.iload_n 2, 1) := by decide +kernel
theorem dX4_startNextDay_18 : decode cX4_startNextDay 18 = .ok (.bipush 8, 2) := by decide +kernel
theorem dX4_startNextDay_20 : decode cX4_startNextDay 20 = .ok (.if_icmp .ge 24, 3) := by decide +kernel
theorem dX4_startNextDay_23 : decode cX4_startNextDay 23 = .ok (.aload_n 0, 1) := by decide +kernel
theorem dX4_startNextDay_24 : decode cX4_startNextDay 24 = .ok (.iload_n 2, 1) := by decide +kernel
theorem dX4_startNextDay_25 : decode cX4_startNextDay 25 = .ok (.aload_n 0, 1) := by decide +kernel
theorem dX4_startNextDay_26 : decode cX4_startNextDay 26 = .ok (.getfield 28, 3) := by decide +kernel
theorem dX4_startNextDay_29 : decode cX4_startNextDay 29 = .ok (.iload_n 2, 1) := by decide +kernel
theorem dX4_startNextDay_30 : decode cX4_startNextDay 30 = .ok (.aaload, 1) := by decide +kernel
theorem dX4_startNextDay_31 : decode cX4_startNextDay 31 = .ok (.iload_n 1, 1) := by decide +kernel
theorem dX4_startNextDay_32 : decode cX4_startNextDay 32 = .ok (.invokevirtual 212, 3) := by decide +kernel
theorem dX4_startNextDay_35 : decode cX4_startNextDay 35 = .ok (.invokevirtual 191, 3) := by decide +kernel
theorem dX4_startNextDay_38 : decode cX4_startNextDay 38 = .ok (.iinc 2 1, 3) := by decide +kernel
theorem dX4_startNextDay_41 : decode cX4_startNextDay 41 = .ok (.goto (-24), 3) := by decide +kernel
theorem dX4_startNextDay_44 : decode cX4_startNextDay 44 = .ok (.return_, 1) := by decide +kernel
theorem dX4_usable_0 : decode cX4_usable 0 = .ok (.aload_n 0, 1) := by decide +kernel
theorem dX4_usable_1 : decode cX4_usable 1 = .ok (.getfield 28, 3) := by decide +kernel
theorem dX4_usable_4 : decode cX4_usable 4 = .ok (.iload_n 1, 1) := by decide +kernel
theorem dX4_usable_5 : decode cX4_usable 5 = .ok (.aaload, 1) := by decide +kernel
theorem dX4_usable_6 : decode cX4_usable 6 = .ok (.aload_n 0, 1) := by decide +kernel
theorem dX4_usable_7 : decode cX4_usable 7 = .ok (.getfield 209, 3) := by decide +kernel
theorem dX4_usable_10 : decode cX4_usable 10 = .ok (.invokevirtual 212, 3) := by decide +kernel
theorem dX4_usable_13 : decode cX4_usable 13 = .ok (.ireturn, 1) := by decide +kernel
theorem dX4_dropProofsOfLostFont_0 : decode cX4_dropProofsOfLostFont 0 = .ok (.iload_n 2, 1) := by decide +kernel
theorem dX4_dropProofsOfLostFont_1 : decode cX4_dropProofsOfLostFont 1 = .ok (.ifCond .eq 11, 3) := by decide +kernel
theorem dX4_dropProofsOfLostFont_4 : decode cX4_dropProofsOfLostFont 4 = .ok (.aload_n 0, 1) := by decide +kernel
theorem dX4_dropProofsOfLostFont_5 : decode cX4_dropProofsOfLostFont 5 = .ok (.iload_n 1, 1) := by decide +kernel
theorem dX4_dropProofsOfLostFont_6 : decode cX4_dropProofsOfLostFont 6 = .ok (.invokevirtual 185, 3) := by decide +kernel
theorem dX4_dropProofsOfLostFont_9 : decode cX4_dropProofsOfLostFont 9 = .ok (.ifCond .eq 4, 3) := by decide +kernel
theorem dX4_dropProofsOfLostFont_12 : decode cX4_dropProofsOfLostFont 12 = .ok (.return_, 1) := by decide +kernel
theorem dX4_dropProofsOfLostFont_13 : decode cX4_dropProofsOfLostFont 13 = .ok (.iconst 0, 1) := by decide +kernel
theorem dX4_dropProofsOfLostFont_14 : decode cX4_dropProofsOfLostFont 14 = .ok (.istore_n 3, 1) := by decide +kernel
theorem dX4_dropProofsOfLostFont_15 : decode cX4_dropProofsOfLostFont 15 = .ok (.iload_n 3, 1) := by decide +kernel
theorem dX4_dropProofsOfLostFont_16 : decode cX4_dropProofsOfLostFont 16 = .ok (.aload_n 0, 1) := by decide +kernel
theorem dX4_dropProofsOfLostFont_17 : decode cX4_dropProofsOfLostFont 17 = .ok (.getfield 47, 3) := by decide +kernel
theorem dX4_dropProofsOfLostFont_20 : decode cX4_dropProofsOfLostFont 20 = .ok (.if_icmp .ge 31, 3) := by decide +kernel
theorem dX4_dropProofsOfLostFont_23 : decode cX4_dropProofsOfLostFont 23 = .ok (.aload_n 0, 1) := by decide +kernel
theorem dX4_dropProofsOfLostFont_24 : decode cX4_dropProofsOfLostFont 24 = .ok (.getfield 11, 3) := by decide +kernel
theorem dX4_dropProofsOfLostFont_27 : decode cX4_dropProofsOfLostFont 27 = .ok (.iload_n 3, 1) := by decide +kernel
theorem dX4_dropProofsOfLostFont_28 : decode cX4_dropProofsOfLostFont 28 = .ok (.aaload, 1) := by decide +kernel
theorem dX4_dropProofsOfLostFont_29 : decode cX4_dropProofsOfLostFont 29 = .ok (.iload_n 1, 1) := by decide +kernel
theorem dX4_dropProofsOfLostFont_30 : decode cX4_dropProofsOfLostFont 30 = .ok (.invokevirtual 93, 3) := by decide +kernel
theorem dX4_dropProofsOfLostFont_33 : decode cX4_dropProofsOfLostFont 33 = .ok (.ifCond .eq 12, 3) := by decide +kernel
theorem dX4_dropProofsOfLostFont_36 : decode cX4_dropProofsOfLostFont 36 = .ok (.aload_n 0, 1) := by decide +kernel
theorem dX4_dropProofsOfLostFont_37 : decode cX4_dropProofsOfLostFont 37 = .ok (.getfield 11, 3) := by decide +kernel
theorem dX4_dropProofsOfLostFont_40 : decode cX4_dropProofsOfLostFont 40 = .ok (.iload_n 3, 1) := by decide +kernel
theorem dX4_dropProofsOfLostFont_41 : decode cX4_dropProofsOfLostFont 41 = .ok (.aaload, 1) := by decide +kernel
theorem dX4_dropProofsOfLostFont_42 : decode cX4_dropProofsOfLostFont 42 = .ok (.invokevirtual 215, 3) := by decide +kernel
theorem dX4_dropProofsOfLostFont_45 : decode cX4_dropProofsOfLostFont 45 = .ok (.iinc 3 1, 3) := by decide +kernel
theorem dX4_dropProofsOfLostFont_48 : decode cX4_dropProofsOfLostFont 48 = .ok (.goto (-33), 3) := by decide +kernel
theorem dX4_dropProofsOfLostFont_51 : decode cX4_dropProofsOfLostFont 51 = .ok (.return_, 1) := by decide +kernel
theorem dX4_noteReadySheets_0 : decode cX4_noteReadySheets 0 = .ok (.aload_n 0, 1) := by decide +kernel
theorem dX4_noteReadySheets_1 : decode cX4_noteReadySheets 1 = .ok (.invokevirtual 113, 3) := by decide +kernel
theorem dX4_noteReadySheets_4 : decode cX4_noteReadySheets 4 = .ok (.istore_n 1, 1) := by decide +kernel
theorem dX4_noteReadySheets_5 : decode cX4_noteReadySheets 5 = .ok (.iconst 0, 1) := by decide +kernel
theorem dX4_noteReadySheets_6 : decode cX4_noteReadySheets 6 = .ok (.istore_n 2, 1) := by decide +kernel
theorem dX4_noteReadySheets_7 : decode cX4_noteReadySheets 7 = .ok (.iload_n 2, 1) := by decide +kernel
theorem dX4_noteReadySheets_8 : decode cX4_noteReadySheets 8 = .ok (.bipush 16, 2) := by decide +kernel
theorem dX4_noteReadySheets_10 : decode cX4_noteReadySheets 10 = .ok (.if_icmp .ge 33, 3) := by decide +kernel
theorem dX4_noteReadySheets_13 : decode cX4_noteReadySheets 13 = .ok (.aload_n 0, 1) := by decide +kernel
theorem dX4_noteReadySheets_14 : decode cX4_noteReadySheets 14 = .ok (.getfield 33, 3) := by decide +kernel
theorem dX4_noteReadySheets_17 : decode cX4_noteReadySheets 17 = .ok (.iload_n 2, 1) := by decide +kernel
theorem dX4_noteReadySheets_18 : decode cX4_noteReadySheets 18 = .ok (.iload_n 2, 1) := by decide +kernel
theorem dX4_noteReadySheets_19 : decode cX4_noteReadySheets 19 = .ok (.iload_n 1, 1) := by decide +kernel
theorem dX4_noteReadySheets_20 : decode cX4_noteReadySheets 20 = .ok (.if_icmp .ge 15, 3) := by decide +kernel
theorem dX4_noteReadySheets_23 : decode cX4_noteReadySheets 23 = .ok (.aload_n 0, 1) := by decide +kernel
theorem dX4_noteReadySheets_24 : decode cX4_noteReadySheets 24 = .ok (.iload_n 2, 1) := by decide +kernel
theorem dX4_noteReadySheets_25 : decode cX4_noteReadySheets 25 = .ok (.invokevirtual 218, 3) := by decide +kernel
theorem dX4_noteReadySheets_28 : decode cX4_noteReadySheets 28 = .ok (.ifCond .eq 7, 3) := by decide +kernel
theorem dX4_noteReadySheets_31 : decode cX4_noteReadySheets 31 = .ok (.iconst 1, 1) := by decide +kernel
theorem dX4_noteReadySheets_32 : decode cX4_noteReadySheets 32 = .ok (.goto 4, 3) := by decide +kernel
theorem dX4_noteReadySheets_35 : decode cX4_noteReadySheets 35 = .ok (.iconst 0, 1) := by decide +kernel
theorem dX4_noteReadySheets_36 : decode cX4_noteReadySheets 36 = .ok (.bastore, 1) := by decide +kernel
theorem dX4_noteReadySheets_37 : decode cX4_noteReadySheets 37 = .ok (.iinc 2 1, 3) := by decide +kernel
theorem dX4_noteReadySheets_40 : decode cX4_noteReadySheets 40 = .ok (.goto (-33), 3) := by decide +kernel
theorem dX4_noteReadySheets_43 : decode cX4_noteReadySheets 43 = .ok (.return_, 1) := by decide +kernel
theorem dX4_countSentBack_0 : decode cX4_countSentBack 0 = .ok (.iconst 0, 1) := by decide +kernel
theorem dX4_countSentBack_1 : decode cX4_countSentBack 1 = .ok (.istore_n 1, 1) := by decide +kernel
theorem dX4_countSentBack_2 : decode cX4_countSentBack 2 = .ok (.iconst 0, 1) := by decide +kernel
theorem dX4_countSentBack_3 : decode cX4_countSentBack 3 = .ok (.istore_n 2, 1) := by decide +kernel
theorem dX4_countSentBack_4 : decode cX4_countSentBack 4 = .ok (.iload_n 2, 1) := by decide +kernel
theorem dX4_countSentBack_5 : decode cX4_countSentBack 5 = .ok (.bipush 16, 2) := by decide +kernel
theorem dX4_countSentBack_7 : decode cX4_countSentBack 7 = .ok (.if_icmp .ge 29, 3) := by decide +kernel
theorem dX4_countSentBack_10 : decode cX4_countSentBack 10 = .ok (.aload_n 0, 1) := by decide +kernel
theorem dX4_countSentBack_11 : decode cX4_countSentBack 11 = .ok (.getfield 33, 3) := by decide +kernel
theorem dX4_countSentBack_14 : decode cX4_countSentBack 14 = .ok (.iload_n 2, 1) := by decide +kernel
theorem dX4_countSentBack_15 : decode cX4_countSentBack 15 = .ok (.baload, 1) := by decide +kernel
theorem dX4_countSentBack_16 : decode cX4_countSentBack 16 = .ok (.ifCond .eq 14, 3) := by decide +kernel
theorem dX4_countSentBack_19 : decode cX4_countSentBack 19 = .ok (.aload_n 0, 1) := by decide +kernel
theorem dX4_countSentBack_20 : decode cX4_countSentBack 20 = .ok (.iload_n 2, 1) := by decide +kernel
theorem dX4_countSentBack_21 : decode cX4_countSentBack 21 = .ok (.invokevirtual 218, 3) := by decide +kernel
theorem dX4_countSentBack_24 : decode cX4_countSentBack 24 = .ok (.ifCond .ne 6, 3) := by decide +kernel
theorem dX4_countSentBack_27 : decode cX4_countSentBack 27 = .ok (.iinc 1 1, 3) := by decide +kernel
theorem dX4_countSentBack_30 : decode cX4_countSentBack 30 = .ok (.iinc 2 1, 3) := by decide +kernel
theorem dX4_countSentBack_33 : decode cX4_countSentBack 33 = .ok (.goto (-29), 3) := by decide +kernel
theorem dX4_countSentBack_36 : decode cX4_countSentBack 36 = .ok (.iload_n 1, 1) := by decide +kernel
theorem dX4_countSentBack_37 : decode cX4_countSentBack 37 = .ok (.ireturn, 1) := by decide +kernel
theorem dX4_checkFont_0 : decode cX4_checkFont 0 = .ok (.iload_n 0, 1) := by decide +kernel
theorem dX4_checkFont_1 : decode cX4_checkFont 1 = .ok (.ifCond .lt 9, 3) := by decide +kernel
theorem dX4_checkFont_4 : decode cX4_checkFont 4 = .ok (.iload_n 0, 1) := by decide +kernel
theorem dX4_checkFont_5 : decode cX4_checkFont 5 = .ok (.bipush 8, 2) := by decide +kernel
theorem dX4_checkFont_7 : decode cX4_checkFont 7 = .ok (.if_icmp .lt 13, 3) := by decide +kernel
theorem dX4_checkFont_10 : decode cX4_checkFont 10 = .ok (.new 88, 3) := by decide +kernel
theorem dX4_checkFont_13 : decode cX4_checkFont 13 = .ok (.dup, 1) := by decide +kernel
theorem dX4_checkFont_14 : decode cX4_checkFont 14 = .ok (.ldc 221, 2) := by decide +kernel
theorem dX4_checkFont_16 : decode cX4_checkFont 16 = .ok (.invokespecial 92, 3) := by decide +kernel
theorem dX4_checkFont_19 : decode cX4_checkFont 19 = .ok (.athrow, 1) := by decide +kernel
theorem dX4_checkFont_20 : decode cX4_checkFont 20 = .ok (.return_, 1) := by decide +kernel
theorem dX4_prove_0 : decode cX4_prove 0 = .ok (.aload_n 0, 1) := by decide +kernel
theorem dX4_prove_1 : decode cX4_prove 1 = .ok (.iload_n 1, 1) := by decide +kernel
theorem dX4_prove_2 : decode cX4_prove 2 = .ok (.invokevirtual 72, 3) := by decide +kernel
theorem dX4_prove_5 : decode cX4_prove 5 = .ok (.iload_n 2, 1) := by decide +kernel
theorem dX4_prove_6 : decode cX4_prove 6 = .ok (.invokestatic 223, 3) := by decide +kernel
theorem dX4_prove_9 : decode cX4_prove 9 = .ok (.aload_n 0, 1) := by decide +kernel
theorem dX4_prove_10 : decode cX4_prove 10 = .ok (.getfield 11, 3) := by decide +kernel
theorem dX4_prove_13 : decode cX4_prove 13 = .ok (.iload_n 1, 1) := by decide +kernel
theorem dX4_prove_14 : decode cX4_prove 14 = .ok (.aaload, 1) := by decide +kernel
theorem dX4_prove_15 : decode cX4_prove 15 = .ok (.astore_n 3, 1) := by decide +kernel
theorem dX4_prove_16 : decode cX4_prove 16 = .ok (.aload_n 3, 1) := by decide +kernel
theorem dX4_prove_17 : decode cX4_prove 17 = .ok (.iload_n 2, 1) := by decide +kernel
theorem dX4_prove_18 : decode cX4_prove 18 = .ok (.invokevirtual 226, 3) := by decide +kernel
theorem dX4_prove_21 : decode cX4_prove 21 = .ok (.ifCond .ne 13, 3) := by decide +kernel
theorem dX4_prove_24 : decode cX4_prove 24 = .ok (.new 64, 3) := by decide +kernel
theorem dX4_prove_27 : decode cX4_prove 27 = .ok (.dup, 1) := by decide +kernel
theorem dX4_prove_28 : decode cX4_prove 28 = .ok (.ldc 229, 2) := by decide +kernel
theorem dX4_prove_30 : decode cX4_prove 30 = .ok (.invokespecial 68, 3) := by decide +kernel
theorem dX4_prove_33 : decode cX4_prove 33 = .ok (.athrow, 1) := by decide +kernel
theorem dX4_prove_34 : decode cX4_prove 34 = .ok (.aload_n 0, 1) := by decide +kernel
theorem dX4_prove_35 : decode cX4_prove 35 = .ok (.aload_n 3, 1) := by decide +kernel
theorem dX4_prove_36 : decode cX4_prove 36 = .ok (.invokevirtual 231, 3) := by decide +kernel
theorem dX4_prove_39 : decode cX4_prove 39 = .ok (.ifCond .ne 13, 3) := by decide +kernel
theorem dX4_prove_42 : decode cX4_prove 42 = .ok (.new 64, 3) := by decide +kernel
theorem dX4_prove_45 : decode cX4_prove 45 = .ok (.dup, 1) := by decide +kernel
theorem dX4_prove_46 : decode cX4_prove 46 = .ok (.ldc 235, 2) := by decide +kernel
theorem dX4_prove_48 : decode cX4_prove 48 = .ok (.invokespecial 68, 3) := by decide +kernel
theorem dX4_prove_51 : decode cX4_prove 51 = .ok (.athrow, 1) := by decide +kernel
theorem dX4_prove_52 : decode cX4_prove 52 = .ok (.aload_n 3, 1) := by decide +kernel
theorem dX4_prove_53 : decode cX4_prove 53 = .ok (.getfield 237, 3) := by decide +kernel
theorem dX4_prove_56 : decode cX4_prove 56 = .ok (.iload_n 2, 1) := by decide +kernel
theorem dX4_prove_57 : decode cX4_prove 57 = .ok (.iaload, 1) := by decide +kernel
theorem dX4_prove_58 : decode cX4_prove 58 = .ok (.iconst 1, 1) := by decide +kernel
theorem dX4_prove_59 : decode cX4_prove 59 = .ok (.if_icmp .eq 13, 3) := by decide +kernel
theorem dX4_prove_62 : decode cX4_prove 62 = .ok (.aload_n 3, 1) := by decide +kernel
theorem dX4_prove_63 : decode cX4_prove 63 = .ok (.getfield 237, 3) := by decide +kernel
theorem dX4_prove_66 : decode cX4_prove 66 = .ok (.iload_n 2, 1) := by decide +kernel
theorem dX4_prove_67 : decode cX4_prove 67 = .ok (.iaload, 1) := by decide +kernel
theorem dX4_prove_68 : decode cX4_prove 68 = .ok (.iconst 2, 1) := by decide +kernel
theorem dX4_prove_69 : decode cX4_prove 69 = .ok (.if_icmp .ne 13, 3) := by decide +kernel
theorem dX4_prove_72 : decode cX4_prove 72 = .ok (.new 64, 3) := by decide +kernel
theorem dX4_prove_75 : decode cX4_prove 75 = .ok (.dup, 1) := by decide +kernel
theorem dX4_prove_76 : decode cX4_prove 76 = .ok (.ldc 240, 2) := by decide +kernel
theorem dX4_prove_78 : decode cX4_prove 78 = .ok (.invokespecial 68, 3) := by decide +kernel
theorem dX4_prove_81 : decode cX4_prove 81 = .ok (.athrow, 1) := by decide +kernel
theorem dX4_prove_82 : decode cX4_prove 82 = .ok (.aload_n 3, 1) := by decide +kernel
theorem dX4_prove_83 : decode cX4_prove 83 = .ok (.getfield 237, 3) := by decide +kernel
theorem dX4_prove_86 : decode cX4_prove 86 = .ok (.iload_n 2, 1) := by decide +kernel
theorem dX4_prove_87 : decode cX4_prove 87 = .ok (.iconst 1, 1) := by decide +kernel
theorem dX4_prove_88 : decode cX4_prove 88 = .ok (.iastore, 1) := by decide +kernel
theorem dX4_prove_89 : decode cX4_prove 89 = .ok (.aload_n 3, 1) := by decide +kernel
theorem dX4_prove_90 : decode cX4_prove 90 = .ok (.iconst 1, 1) := by decide +kernel
theorem dX4_prove_91 : decode cX4_prove 91 = .ok (.invokevirtual 242, 3) := by decide +kernel
theorem dX4_prove_94 : decode cX4_prove 94 = .ok (.aload_n 3, 1) := by decide +kernel
theorem dX4_prove_95 : decode cX4_prove 95 = .ok (.iconst 2, 1) := by decide +kernel
theorem dX4_prove_96 : decode cX4_prove 96 = .ok (.invokevirtual 242, 3) := by decide +kernel
theorem dX4_prove_99 : decode cX4_prove 99 = .ok (.iadd, 1) := by decide +kernel
theorem dX4_prove_100 : decode cX4_prove 100 = .ok (.ireturn, 1) := by decide +kernel
theorem dX4_judge_0 : decode cX4_judge 0 = .ok (.aload_n 0, 1) := by decide +kernel
theorem dX4_judge_1 : decode cX4_judge 1 = .ok (.iload_n 1, 1) := by decide +kernel
theorem dX4_judge_2 : decode cX4_judge 2 = .ok (.invokevirtual 72, 3) := by decide +kernel
theorem dX4_judge_5 : decode cX4_judge 5 = .ok (.iload_n 2, 1) := by decide +kernel
theorem dX4_judge_6 : decode cX4_judge 6 = .ok (.invokestatic 223, 3) := by decide +kernel
theorem dX4_judge_9 : decode cX4_judge 9 = .ok (.aload_n 0, 1) := by decide +kernel
theorem dX4_judge_10 : decode cX4_judge 10 = .ok (.getfield 11, 3) := by decide +kernel
theorem dX4_judge_13 : decode cX4_judge 13 = .ok (.iload_n 1, 1) := by decide +kernel
theorem dX4_judge_14 : decode cX4_judge 14 = .ok (.aaload, 1) := by decide +kernel
theorem dX4_judge_15 : decode cX4_judge 15 = .ok (.astore 4, 2) := by decide +kernel
theorem dX4_judge_17 : decode cX4_judge 17 = .ok (.aload 4, 2) := by decide +kernel
theorem dX4_judge_19 : decode cX4_judge 19 = .ok (.iload_n 2, 1) := by decide +kernel
theorem dX4_judge_20 : decode cX4_judge 20 = .ok (.invokevirtual 226, 3) := by decide +kernel
theorem dX4_judge_23 : decode cX4_judge 23 = .ok (.ifCond .eq 14, 3) := by decide +kernel
theorem dX4_judge_26 : decode cX4_judge 26 = .ok (.aload 4, 2) := by decide +kernel
theorem dX4_judge_28 : decode cX4_judge 28 = .ok (.getfield 237, 3) := by decide +kernel
theorem dX4_judge_31 : decode cX4_judge 31 = .ok (.iload_n 2, 1) := by decide +kernel
theorem dX4_judge_32 : decode cX4_judge 32 = .ok (.iaload, 1) := by decide +kernel
theorem dX4_judge_33 : decode cX4_judge 33 = .ok (.iconst 1, 1) := by decide +kernel
theorem dX4_judge_34 : decode cX4_judge 34 = .ok (.if_icmp .eq 13, 3) := by decide +kernel
theorem dX4_judge_37 : decode cX4_judge 37 = .ok (.new 64, 3) := by decide +kernel
theorem dX4_judge_40 : decode cX4_judge 40 = .ok (.dup, 1) := by decide +kernel
theorem dX4_judge_41 : decode cX4_judge 41 = .ok (.ldc 245, 2) := by decide +kernel
theorem dX4_judge_43 : decode cX4_judge 43 = .ok (.invokespecial 68, 3) := by decide +kernel
theorem dX4_judge_46 : decode cX4_judge 46 = .ok (.athrow, 1) := by decide +kernel
theorem dX4_judge_47 : decode cX4_judge 47 = .ok (.aload 4, 2) := by decide +kernel
theorem dX4_judge_49 : decode cX4_judge 49 = .ok (.getfield 237, 3) := by decide +kernel
theorem dX4_judge_52 : decode cX4_judge 52 = .ok (.iload_n 2, 1) := by decide +kernel
theorem dX4_judge_53 : decode cX4_judge 53 = .ok (.iload_n 3, 1) := by decide +kernel
theorem dX4_judge_54 : decode cX4_judge 54 = .ok (.ifCond .eq 7, 3) := by decide +kernel
theorem dX4_judge_57 : decode cX4_judge 57 = .ok (.iconst 2, 1) := by decide +kernel
theorem dX4_judge_58 : decode cX4_judge 58 = .ok (.goto 4, 3) := by decide +kernel
theorem dX4_judge_61 : decode cX4_judge 61 = .ok (.iconst 3, 1) := by decide +kernel
theorem dX4_judge_62 : decode cX4_judge 62 = .ok (.iastore, 1) := by decide +kernel
theorem dX4_judge_63 : decode cX4_judge 63 = .ok (.aload_n 0, 1) := by decide +kernel
theorem dX4_judge_64 : decode cX4_judge 64 = .ok (.aload 4, 2) := by decide +kernel
theorem dX4_judge_66 : decode cX4_judge 66 = .ok (.invokevirtual 247, 3) := by decide +kernel
theorem dX4_judge_69 : decode cX4_judge 69 = .ok (.ireturn, 1) := by decide +kernel
theorem dX4_proof_0 : decode cX4_proof 0 = .ok (.aload_n 0, 1) := by decide +kernel
theorem dX4_proof_1 : decode cX4_proof 1 = .ok (.iload_n 1, 1) := by decide +kernel
theorem dX4_proof_2 : decode cX4_proof 2 = .ok (.invokevirtual 72, 3) := by decide +kernel
theorem dX4_proof_5 : decode cX4_proof 5 = .ok (.iload_n 2, 1) := by decide +kernel
theorem dX4_proof_6 : decode cX4_proof 6 = .ok (.invokestatic 223, 3) := by decide +kernel
theorem dX4_proof_9 : decode cX4_proof 9 = .ok (.aload_n 0, 1) := by decide +kernel
theorem dX4_proof_10 : decode cX4_proof 10 = .ok (.getfield 11, 3) := by decide +kernel
theorem dX4_proof_13 : decode cX4_proof 13 = .ok (.iload_n 1, 1) := by decide +kernel
theorem dX4_proof_14 : decode cX4_proof 14 = .ok (.aaload, 1) := by decide +kernel
theorem dX4_proof_15 : decode cX4_proof 15 = .ok (.astore_n 3, 1) := by decide +kernel
theorem dX4_proof_16 : decode cX4_proof 16 = .ok (.aload_n 3, 1) := by decide +kernel
theorem dX4_proof_17 : decode cX4_proof 17 = .ok (.iload_n 2, 1) := by decide +kernel
theorem dX4_proof_18 : decode cX4_proof 18 = .ok (.invokevirtual 226, 3) := by decide +kernel
theorem dX4_proof_21 : decode cX4_proof 21 = .ok (.ifCond .eq 12, 3) := by decide +kernel
theorem dX4_proof_24 : decode cX4_proof 24 = .ok (.aload_n 3, 1) := by decide +kernel
theorem dX4_proof_25 : decode cX4_proof 25 = .ok (.getfield 237, 3) := by decide +kernel
theorem dX4_proof_28 : decode cX4_proof 28 = .ok (.iload_n 2, 1) := by decide +kernel
theorem dX4_proof_29 : decode cX4_proof 29 = .ok (.iaload, 1) := by decide +kernel
theorem dX4_proof_30 : decode cX4_proof 30 = .ok (.goto 4, 3) := by decide +kernel
theorem dX4_proof_33 : decode cX4_proof 33 = .ok (.iconst (-1), 1) := by decide +kernel
theorem dX4_proof_34 : decode cX4_proof 34 = .ok (.ireturn, 1) := by decide +kernel
theorem dX4_isReady_0 : decode cX4_isReady 0 = .ok (.aload_n 0, 1) := by decide +kernel
theorem dX4_isReady_1 : decode cX4_isReady 1 = .ok (.iload_n 1, 1) := by decide +kernel
theorem dX4_isReady_2 : decode cX4_isReady 2 = .ok (.invokevirtual 164, 3) := by decide +kernel
theorem dX4_isReady_5 : decode cX4_isReady 5 = .ok (.aload_n 0, 1) := by decide +kernel
theorem dX4_isReady_6 : decode cX4_isReady 6 = .ok (.iload_n 1, 1) := by decide +kernel
theorem dX4_isReady_7 : decode cX4_isReady 7 = .ok (.invokevirtual 218, 3) := by decide +kernel
theorem dX4_isReady_10 : decode cX4_isReady 10 = .ok (.ireturn, 1) := by decide +kernel
theorem dX4_allFinishedOn_0 : decode cX4_allFinishedOn 0 = .ok (.iload_n 1, 1) := by decide +kernel
theorem dX4_allFinishedOn_1 : decode cX4_allFinishedOn 1 = .ok (.aload_n 0, 1) := by decide +kernel
theorem dX4_allFinishedOn_2 : decode cX4_allFinishedOn 2 = .ok (.getfield 18, 3) := by decide +kernel
theorem dX4_allFinishedOn_5 : decode cX4_allFinishedOn 5 = .ok (.invokevirtual 158, 3) := by decide +kernel
theorem dX4_allFinishedOn_8 : decode cX4_allFinishedOn 8 = .ok (.ishl, 1) := by decide +kernel
theorem dX4_allFinishedOn_9 : decode cX4_allFinishedOn 9 = .ok (.istore_n 2, 1) := by decide +kernel
theorem dX4_allFinishedOn_10 : decode cX4_allFinishedOn 10 = .ok (.iload_n 2, 1) := by decide +kernel
theorem dX4_allFinishedOn_11 : decode cX4_allFinishedOn 11 = .ok (.aload_n 0, 1) := by decide +kernel
theorem dX4_allFinishedOn_12 : decode cX4_allFinishedOn 12 = .ok (.getfield 18, 3) := by decide +kernel
theorem dX4_allFinishedOn_15 : decode cX4_allFinishedOn 15 = .ok (.invokevirtual 155, 3) := by decide +kernel
theorem dX4_allFinishedOn_18 : decode cX4_allFinishedOn 18 = .ok (.iadd, 1) := by decide +kernel
theorem dX4_allFinishedOn_19 : decode cX4_allFinishedOn 19 = .ok (.aload_n 0, 1) := by decide +kernel
theorem dX4_allFinishedOn_20 : decode cX4_allFinishedOn 20 = .ok (.getfield 47, 3) := by decide +kernel
theorem dX4_allFinishedOn_23 : decode cX4_allFinishedOn 23 = .ok (.invokestatic 250, 3) := by decide +kernel
theorem dX4_allFinishedOn_26 : decode cX4_allFinishedOn 26 = .ok (.istore_n 3, 1) := by decide +kernel
theorem dX4_allFinishedOn_27 : decode cX4_allFinishedOn 27 = .ok (.iload_n 2, 1) := by decide +kernel
theorem dX4_allFinishedOn_28 : decode cX4_allFinishedOn 28 = .ok (.istore 4, 2) := by decide +kernel
theorem dX4_allFinishedOn_30 : decode cX4_allFinishedOn 30 = .ok (.iload 4, 2) := by decide +kernel
theorem dX4_allFinishedOn_32 : decode cX4_allFinishedOn 32 = .ok (.iload_n 3, 1) := by decide +kernel
theorem dX4_allFinishedOn_33 : decode cX4_allFinishedOn 33 = .ok (.if_icmp .ge 25, 3) := by decide +kernel
theorem dX4_allFinishedOn_36 : decode cX4_allFinishedOn 36 = .ok (.aload_n 0, 1) := by decide +kernel
theorem dX4_allFinishedOn_37 : decode cX4_allFinishedOn 37 = .ok (.aload_n 0, 1) := by decide +kernel
theorem dX4_allFinishedOn_38 : decode cX4_allFinishedOn 38 = .ok (.getfield 11, 3) := by decide +kernel
theorem dX4_allFinishedOn_41 : decode cX4_allFinishedOn 41 = .ok (.iload 4, 2) := by decide +kernel
theorem dX4_allFinishedOn_43 : decode cX4_allFinishedOn 43 = .ok (.aaload, 1) := by decide +kernel
theorem dX4_allFinishedOn_44 : decode cX4_allFinishedOn 44 = .ok (.invokevirtual 247, 3) := by decide +kernel
theorem dX4_allFinishedOn_47 : decode cX4_allFinishedOn 47 = .ok (.ifCond .ne 5, 3) := by decide +kernel
theorem dX4_allFinishedOn_50 : decode cX4_allFinishedOn 50 = .ok (.iconst 0, 1) := by decide +kernel
theorem dX4_allFinishedOn_51 : decode cX4_allFinishedOn 51 = .ok (.ireturn, 1) := by decide +kernel
theorem dX4_allFinishedOn_52 : decode cX4_allFinishedOn 52 = .ok (.iinc 4 1, 3) := by decide +kernel
theorem dX4_allFinishedOn_55 : decode cX4_allFinishedOn 55 = .ok (.goto (-25), 3) := by decide +kernel
theorem dX4_allFinishedOn_58 : decode cX4_allFinishedOn 58 = .ok (.iconst 1, 1) := by decide +kernel
theorem dX4_allFinishedOn_59 : decode cX4_allFinishedOn 59 = .ok (.ireturn, 1) := by decide +kernel
theorem dX4_finished_0 : decode cX4_finished 0 = .ok (.aload_n 1, 1) := by decide +kernel
theorem dX4_finished_1 : decode cX4_finished 1 = .ok (.iconst 2, 1) := by decide +kernel
theorem dX4_finished_2 : decode cX4_finished 2 = .ok (.invokevirtual 242, 3) := by decide +kernel
theorem dX4_finished_5 : decode cX4_finished 5 = .ok (.aload_n 1, 1) := by decide +kernel
theorem dX4_finished_6 : decode cX4_finished 6 = .ok (.getfield 100, 3) := by decide +kernel
theorem dX4_finished_9 : decode cX4_finished 9 = .ok (.invokestatic 255, 3) := by decide +kernel
theorem dX4_finished_12 : decode cX4_finished 12 = .ok (.if_icmp .ne 15, 3) := by decide +kernel
theorem dX4_finished_15 : decode cX4_finished 15 = .ok (.aload_n 0, 1) := by decide +kernel
theorem dX4_finished_16 : decode cX4_finished 16 = .ok (.aload_n 1, 1) := by decide +kernel
theorem dX4_finished_17 : decode cX4_finished 17 = .ok (.invokevirtual 231, 3) := by decide +kernel
theorem dX4_finished_20 : decode cX4_finished 20 = .ok (.ifCond .eq 7, 3) := by decide +kernel
theorem dX4_finished_23 : decode cX4_finished 23 = .ok (.iconst 1, 1) := by decide +kernel
theorem dX4_finished_24 : decode cX4_finished 24 = .ok (.goto 4, 3) := by decide +kernel
theorem dX4_finished_27 : decode cX4_finished 27 = .ok (.iconst 0, 1) := by decide +kernel
theorem dX4_finished_28 : decode cX4_finished 28 = .ok (.ireturn, 1) := by decide +kernel
theorem dX4_allFontsUsable_0 : decode cX4_allFontsUsable 0 = .ok (.iconst 0, 1) := by decide +kernel
theorem dX4_allFontsUsable_1 : decode cX4_allFontsUsable 1 = .ok (.istore_n 2, 1) := by decide +kernel
theorem dX4_allFontsUsable_2 : decode cX4_allFontsUsable 2 = .ok (.iload_n 2, 1) := by decide +kernel
theorem dX4_allFontsUsable_3 : decode cX4_allFontsUsable 3 = .ok (.bipush 8, 2) := by decide +kernel
theorem dX4_allFontsUsable_5 : decode cX4_allFontsUsable 5 = .ok (.if_icmp .ge 27, 3) := by decide +kernel
theorem dX4_allFontsUsable_8 : decode cX4_allFontsUsable 8 = .ok (.aload_n 1, 1) := by decide +kernel
theorem dX4_allFontsUsable_9 : decode cX4_allFontsUsable 9 = .ok (.iload_n 2, 1) := by decide +kernel
theorem dX4_allFontsUsable_10 : decode cX4_allFontsUsable 10 = .ok (.invokevirtual 93, 3) := by decide +kernel
theorem dX4_allFontsUsable_13 : decode cX4_allFontsUsable 13 = .ok (.ifCond .eq 13, 3) := by decide +kernel
theorem dX4_allFontsUsable_16 : decode cX4_allFontsUsable 16 = .ok (.aload_n 0, 1) := by decide +kernel
theorem dX4_allFontsUsable_17 : decode cX4_allFontsUsable 17 = .ok (.iload_n 2, 1) := by decide +kernel
theorem dX4_allFontsUsable_18 : decode cX4_allFontsUsable 18 = .ok (.invokevirtual 185, 3) := by decide +kernel
theorem dX4_allFontsUsable_21 : decode cX4_allFontsUsable 21 = .ok (.ifCond .ne 5, 3) := by decide +kernel
theorem dX4_allFontsUsable_24 : decode cX4_allFontsUsable 24 = .ok (.iconst 0, 1) := by decide +kernel
theorem dX4_allFontsUsable_25 : decode cX4_allFontsUsable 25 = .ok (.ireturn, 1) := by decide +kernel
theorem dX4_allFontsUsable_26 : decode cX4_allFontsUsable 26 = .ok (.iinc 2 1, 3) := by decide +kernel
theorem dX4_allFontsUsable_29 : decode cX4_allFontsUsable 29 = .ok (.goto (-27), 3) := by decide +kernel
theorem dX4_allFontsUsable_32 : decode cX4_allFontsUsable 32 = .ok (.iconst 1, 1) := by decide +kernel
theorem dX4_allFontsUsable_33 : decode cX4_allFontsUsable 33 = .ok (.ireturn, 1) := by decide +kernel
theorem dX4_checkColor_0 : decode cX4_checkColor 0 = .ok (.iload_n 0, 1) := by decide +kernel
theorem dX4_checkColor_1 : decode cX4_checkColor 1 = .ok (.ifCond .lt 8, 3) := by decide +kernel
theorem dX4_checkColor_4 : decode cX4_checkColor 4 = .ok (.iload_n 0, 1) := by decide +kernel
theorem dX4_checkColor_5 : decode cX4_checkColor 5 = .ok (.iconst 4, 1) := by decide +kernel
theorem dX4_checkColor_6 : decode cX4_checkColor 6 = .ok (.if_icmp .lt 14, 3) := by decide +kernel
theorem dX4_checkColor_9 : decode cX4_checkColor 9 = .ok (.new 88, 3) := by decide +kernel
theorem dX4_checkColor_12 : decode cX4_checkColor 12 = .ok (.dup, 1) := by decide +kernel
theorem dX4_checkColor_13 : decode cX4_checkColor 13 = .ok (.ldc_w 260, 3) := by decide +kernel
theorem dX4_checkColor_16 : decode cX4_checkColor 16 = .ok (.invokespecial 92, 3) := by decide +kernel
theorem dX4_checkColor_19 : decode cX4_checkColor 19 = .ok (.athrow, 1) := by decide +kernel
theorem dX4_checkColor_20 : decode cX4_checkColor 20 = .ok (.return_, 1) := by decide +kernel
theorem dX4_makePlates_0 : decode cX4_makePlates 0 = .ok (.aload_n 0, 1) := by decide +kernel
theorem dX4_makePlates_1 : decode cX4_makePlates 1 = .ok (.iload_n 1, 1) := by decide +kernel
theorem dX4_makePlates_2 : decode cX4_makePlates 2 = .ok (.invokevirtual 164, 3) := by decide +kernel
theorem dX4_makePlates_5 : decode cX4_makePlates 5 = .ok (.aload_n 0, 1) := by decide +kernel
theorem dX4_makePlates_6 : decode cX4_makePlates 6 = .ok (.iload_n 1, 1) := by decide +kernel
theorem dX4_makePlates_7 : decode cX4_makePlates 7 = .ok (.invokevirtual 262, 3) := by decide +kernel
theorem dX4_makePlates_10 : decode cX4_makePlates 10 = .ok (.aload_n 0, 1) := by decide +kernel
theorem dX4_makePlates_11 : decode cX4_makePlates 11 = .ok (.getfield 265, 3) := by decide +kernel
theorem dX4_makePlates_14 : decode cX4_makePlates 14 = .ok (.istore_n 2, 1) := by decide +kernel
theorem dX4_makePlates_15 : decode cX4_makePlates 15 = .ok (.iconst 0, 1) := by decide +kernel
theorem dX4_makePlates_16 : decode cX4_makePlates 16 = .ok (.istore_n 3, 1) := by decide +kernel
theorem dX4_makePlates_17 : decode cX4_makePlates 17 = .ok (.iload_n 3, 1) := by decide +kernel
theorem dX4_makePlates_18 : decode cX4_makePlates 18 = .ok (.iconst 2, 1) := by decide +kernel
theorem dX4_makePlates_19 : decode cX4_makePlates 19 = .ok (.if_icmp .ge 32, 3) := by decide +kernel
theorem dX4_makePlates_22 : decode cX4_makePlates 22 = .ok (.iconst 0, 1) := by decide +kernel
theorem dX4_makePlates_23 : decode cX4_makePlates 23 = .ok (.istore 4, 2) := by decide +kernel
theorem dX4_makePlates_25 : decode cX4_makePlates 25 = .ok (.iload 4, 2) := by decide +kernel
theorem dX4_makePlates_27 : decode cX4_makePlates 27 = .ok (.iconst 4, 1) := by decide +kernel
theorem dX4_makePlates_28 : decode cX4_makePlates 28 = .ok (.if_icmp .ge 17, 3) := by decide +kernel
theorem dX4_makePlates_31 : decode cX4_makePlates 31 = .ok (.aload_n 0, 1) := by decide +kernel
theorem dX4_makePlates_32 : decode cX4_makePlates 32 = .ok (.iload_n 1, 1) := by decide +kernel
theorem dX4_makePlates_33 : decode cX4_makePlates 33 = .ok (.iload_n 3, 1) := by decide +kernel
theorem dX4_makePlates_34 : decode cX4_makePlates 34 = .ok (.iload 4, 2) := by decide +kernel
theorem dX4_makePlates_36 : decode cX4_makePlates 36 = .ok (.invokevirtual 268, 3) := by decide +kernel
theorem dX4_makePlates_39 : decode cX4_makePlates 39 = .ok (.iinc 4 1, 3) := by decide +kernel
theorem dX4_makePlates_42 : decode cX4_makePlates 42 = .ok (.goto (-17), 3) := by decide +kernel
theorem dX4_makePlates_45 : decode cX4_makePlates 45 = .ok (.iinc 3 1, 3) := by decide +kernel
theorem dX4_makePlates_48 : decode cX4_makePlates 48 = .ok (.goto (-31), 3) := by decide +kernel
theorem dX4_makePlates_51 : decode cX4_makePlates 51 = .ok (.aload_n 0, 1) := by decide +kernel
theorem dX4_makePlates_52 : decode cX4_makePlates 52 = .ok (.getfield 265, 3) := by decide +kernel
theorem dX4_makePlates_55 : decode cX4_makePlates 55 = .ok (.iload_n 2, 1) := by decide +kernel
theorem dX4_makePlates_56 : decode cX4_makePlates 56 = .ok (.isub, 1) := by decide +kernel
theorem dX4_makePlates_57 : decode cX4_makePlates 57 = .ok (.ireturn, 1) := by decide +kernel
theorem dX4_wear_0 : decode cX4_wear 0 = .ok (.aload_n 0, 1) := by decide +kernel
theorem dX4_wear_1 : decode cX4_wear 1 = .ok (.iload_n 1, 1) := by decide +kernel
theorem dX4_wear_2 : decode cX4_wear 2 = .ok (.invokevirtual 164, 3) := by decide +kernel
theorem dX4_wear_5 : decode cX4_wear 5 = .ok (.iload_n 2, 1) := by decide +kernel
theorem dX4_wear_6 : decode cX4_wear 6 = .ok (.invokestatic 171, 3) := by decide +kernel
theorem dX4_wear_9 : decode cX4_wear 9 = .ok (.iload_n 3, 1) := by decide +kernel
theorem dX4_wear_10 : decode cX4_wear 10 = .ok (.invokestatic 223, 3) := by decide +kernel
theorem dX4_wear_13 : decode cX4_wear 13 = .ok (.aload_n 0, 1) := by decide +kernel
theorem dX4_wear_14 : decode cX4_wear 14 = .ok (.iload_n 1, 1) := by decide +kernel
theorem dX4_wear_15 : decode cX4_wear 15 = .ok (.iload_n 2, 1) := by decide +kernel
theorem dX4_wear_16 : decode cX4_wear 16 = .ok (.iload_n 3, 1) := by decide +kernel
theorem dX4_wear_17 : decode cX4_wear 17 = .ok (.invokevirtual 271, 3) := by decide +kernel
theorem dX4_wear_20 : decode cX4_wear 20 = .ok (.aload_n 0, 1) := by decide +kernel
theorem dX4_wear_21 : decode cX4_wear 21 = .ok (.getfield 39, 3) := by decide +kernel
theorem dX4_wear_24 : decode cX4_wear 24 = .ok (.iload_n 1, 1) := by decide +kernel
theorem dX4_wear_25 : decode cX4_wear 25 = .ok (.iload_n 2, 1) := by decide +kernel
theorem dX4_wear_26 : decode cX4_wear 26 = .ok (.iload_n 3, 1) := by decide +kernel
theorem dX4_wear_27 : decode cX4_wear 27 = .ok (.invokestatic 274, 3) := by decide +kernel
theorem dX4_wear_30 : decode cX4_wear 30 = .ok (.aaload, 1) := by decide +kernel
theorem dX4_wear_31 : decode cX4_wear 31 = .ok (.astore 4, 2) := by decide +kernel
theorem dX4_wear_33 : decode cX4_wear 33 = .ok (.aload_n 0, 1) := by decide +kernel
theorem dX4_wear_34 : decode cX4_wear 34 = .ok (.aload 4, 2) := by decide +kernel
theorem dX4_wear_36 : decode cX4_wear 36 = .ok (.invokevirtual 277, 3) := by decide +kernel
theorem dX4_wear_39 : decode cX4_wear 39 = .ok (.ifCond .eq 11, 3) := by decide +kernel
theorem dX4_wear_42 : decode cX4_wear 42 = .ok (.aload 4, 2) := by decide +kernel
theorem dX4_wear_44 : decode cX4_wear 44 = .ok (.getfield 281, 3) := by decide +kernel
theorem dX4_wear_47 : decode cX4_wear 47 = .ok (.goto 4, 3) := by decide +kernel
theorem dX4_wear_50 : decode cX4_wear 50 = .ok (.iconst (-1), 1) := by decide +kernel
theorem dX4_wear_51 : decode cX4_wear 51 = .ok (.ireturn, 1) := by decide +kernel
theorem dX4_print_0 : decode cX4_print 0 = .ok (.aload_n 0, 1) := by decide +kernel
theorem dX4_print_1 : decode cX4_print 1 = .ok (.iload_n 1, 1) := by decide +kernel
theorem dX4_print_2 : decode cX4_print 2 = .ok (.invokevirtual 164, 3) := by decide +kernel
theorem dX4_print_5 : decode cX4_print 5 = .ok (.iload_n 2, 1) := by decide +kernel
theorem dX4_print_6 : decode cX4_print 6 = .ok (.iconst 1, 1) := by decide +kernel
theorem dX4_print_7 : decode cX4_print 7 = .ok (.if_icmp .lt 10, 3) := by decide +kernel
theorem dX4_print_10 : decode cX4_print 10 = .ok (.iload_n 2, 1) := by decide +kernel
theorem dX4_print_11 : decode cX4_print 11 = .ok (.sipush 500, 3) := by decide +kernel
theorem dX4_print_14 : decode cX4_print 14 = .ok (.if_icmp .le 14, 3) := by decide +kernel
theorem dX4_print_17 : decode cX4_print 17 = .ok (.new 88, 3) := by decide +kernel
theorem dX4_print_20 : decode cX4_print 20 = .ok (.dup, 1) := by decide +kernel
theorem dX4_print_21 : decode cX4_print 21 = .ok (.ldc_w 284, 3) := by decide +kernel
theorem dX4_print_24 : decode cX4_print 24 = .ok (.invokespecial 92, 3) := by decide +kernel
theorem dX4_print_27 : decode cX4_print 27 = .ok (.athrow, 1) := by decide +kernel
theorem dX4_print_28 : decode cX4_print 28 = .ok (.aload_n 0, 1) := by decide +kernel
theorem dX4_print_29 : decode cX4_print 29 = .ok (.iload_n 1, 1) := by decide +kernel
theorem dX4_print_30 : decode cX4_print 30 = .ok (.invokevirtual 262, 3) := by decide +kernel
theorem dX4_print_33 : decode cX4_print 33 = .ok (.iconst 0, 1) := by decide +kernel
theorem dX4_print_34 : decode cX4_print 34 = .ok (.istore_n 3, 1) := by decide +kernel
theorem dX4_print_35 : decode cX4_print 35 = .ok (.iload_n 3, 1) := by decide +kernel
theorem dX4_print_36 : decode cX4_print 36 = .ok (.iconst 2, 1) := by decide +kernel
theorem dX4_print_37 : decode cX4_print 37 = .ok (.if_icmp .ge 33, 3) := by decide +kernel
theorem dX4_print_40 : decode cX4_print 40 = .ok (.iconst 0, 1) := by decide +kernel
theorem dX4_print_41 : decode cX4_print 41 = .ok (.istore 4, 2) := by decide +kernel
theorem dX4_print_43 : decode cX4_print 43 = .ok (.iload 4, 2) := by decide +kernel
theorem dX4_print_45 : decode cX4_print 45 = .ok (.iconst 4, 1) := by decide +kernel
theorem dX4_print_46 : decode cX4_print 46 = .ok (.if_icmp .ge 18, 3) := by decide +kernel
theorem dX4_print_49 : decode cX4_print 49 = .ok (.aload_n 0, 1) := by decide +kernel
theorem dX4_print_50 : decode cX4_print 50 = .ok (.iload_n 1, 1) := by decide +kernel
theorem dX4_print_51 : decode cX4_print 51 = .ok (.iload_n 3, 1) := by decide +kernel
theorem dX4_print_52 : decode cX4_print 52 = .ok (.iload 4, 2) := by decide +kernel
theorem dX4_print_54 : decode cX4_print 54 = .ok (.iload_n 2, 1) := by decide +kernel
theorem dX4_print_55 : decode cX4_print 55 = .ok (.invokevirtual 286, 3) := by decide +kernel
theorem dX4_print_58 : decode cX4_print 58 = .ok (.iinc 4 1, 3) := by decide +kernel
theorem dX4_print_61 : decode cX4_print 61 = .ok (.goto (-18), 3) := by decide +kernel
theorem dX4_print_64 : decode cX4_print 64 = .ok (.iinc 3 1, 3) := by decide +kernel
theorem dX4_print_67 : decode cX4_print 67 = .ok (.goto (-32), 3) := by decide +kernel
theorem dX4_print_70 : decode cX4_print 70 = .ok (.iconst 0, 1) := by decide +kernel
theorem dX4_print_71 : decode cX4_print 71 = .ok (.istore_n 3, 1) := by decide +kernel
theorem dX4_print_72 : decode cX4_print 72 = .ok (.iload_n 3, 1) := by decide +kernel
theorem dX4_print_73 : decode cX4_print 73 = .ok (.iconst 2, 1) := by decide +kernel
theorem dX4_print_74 : decode cX4_print 74 = .ok (.if_icmp .ge 33, 3) := by decide +kernel
theorem dX4_print_77 : decode cX4_print 77 = .ok (.iconst 0, 1) := by decide +kernel
theorem dX4_print_78 : decode cX4_print 78 = .ok (.istore 4, 2) := by decide +kernel
theorem dX4_print_80 : decode cX4_print 80 = .ok (.iload 4, 2) := by decide +kernel
theorem dX4_print_82 : decode cX4_print 82 = .ok (.iconst 4, 1) := by decide +kernel
theorem dX4_print_83 : decode cX4_print 83 = .ok (.if_icmp .ge 18, 3) := by decide +kernel
theorem dX4_print_86 : decode cX4_print 86 = .ok (.aload_n 0, 1) := by decide +kernel
theorem dX4_print_87 : decode cX4_print 87 = .ok (.iload_n 1, 1) := by decide +kernel
theorem dX4_print_88 : decode cX4_print 88 = .ok (.iload_n 3, 1) := by decide +kernel
theorem dX4_print_89 : decode cX4_print 89 = .ok (.iload 4, 2) := by decide +kernel
theorem dX4_print_91 : decode cX4_print 91 = .ok (.iload_n 2, 1) := by decide +kernel
theorem dX4_print_92 : decode cX4_print 92 = .ok (.invokevirtual 289, 3) := by decide +kernel
theorem dX4_print_95 : decode cX4_print 95 = .ok (.iinc 4 1, 3) := by decide +kernel
theorem dX4_print_98 : decode cX4_print 98 = .ok (.goto (-18), 3) := by decide +kernel
theorem dX4_print_101 : decode cX4_print 101 = .ok (.iinc 3 1, 3) := by decide +kernel
theorem dX4_print_104 : decode cX4_print 104 = .ok (.goto (-32), 3) := by decide +kernel
theorem dX4_print_107 : decode cX4_print 107 = .ok (.aload_n 0, 1) := by decide +kernel
theorem dX4_print_108 : decode cX4_print 108 = .ok (.dup, 1) := by decide +kernel
theorem dX4_print_109 : decode cX4_print 109 = .ok (.getfield 292, 3) := by decide +kernel
theorem dX4_print_112 : decode cX4_print 112 = .ok (.iload_n 2, 1) := by decide +kernel
theorem dX4_print_113 : decode cX4_print 113 = .ok (.iadd, 1) := by decide +kernel
theorem dX4_print_114 : decode cX4_print 114 = .ok (.putfield 292, 3) := by decide +kernel
theorem dX4_print_117 : decode cX4_print 117 = .ok (.aload_n 0, 1) := by decide +kernel
theorem dX4_print_118 : decode cX4_print 118 = .ok (.getfield 292, 3) := by decide +kernel
theorem dX4_print_121 : decode cX4_print 121 = .ok (.ireturn, 1) := by decide +kernel
theorem dX4_plates_0 : decode cX4_plates 0 = .ok (.aload_n 0, 1) := by decide +kernel
theorem dX4_plates_1 : decode cX4_plates 1 = .ok (.getfield 265, 3) := by decide +kernel
theorem dX4_plates_4 : decode cX4_plates 4 = .ok (.ireturn, 1) := by decide +kernel
theorem dX4_checkReady_0 : decode cX4_checkReady 0 = .ok (.aload_n 0, 1) := by decide +kernel
theorem dX4_checkReady_1 : decode cX4_checkReady 1 = .ok (.iload_n 1, 1) := by decide +kernel
theorem dX4_checkReady_2 : decode cX4_checkReady 2 = .ok (.invokevirtual 218, 3) := by decide +kernel
theorem dX4_checkReady_5 : decode cX4_checkReady 5 = .ok (.ifCond .ne 14, 3) := by decide +kernel
theorem dX4_checkReady_8 : decode cX4_checkReady 8 = .ok (.new 64, 3) := by decide +kernel
theorem dX4_checkReady_11 : decode cX4_checkReady 11 = .ok (.dup, 1) := by decide +kernel
theorem dX4_checkReady_12 : decode cX4_checkReady 12 = .ok (.ldc_w 295, 3) := by decide +kernel
theorem dX4_checkReady_15 : decode cX4_checkReady 15 = .ok (.invokespecial 68, 3) := by decide +kernel
theorem dX4_checkReady_18 : decode cX4_checkReady 18 = .ok (.athrow, 1) := by decide +kernel
theorem dX4_checkReady_19 : decode cX4_checkReady 19 = .ok (.return_, 1) := by decide +kernel
theorem dX4_makePlateIfNeeded_0 : decode cX4_makePlateIfNeeded 0 = .ok (.aload_n 0, 1) := by decide +kernel
theorem dX4_makePlateIfNeeded_1 : decode cX4_makePlateIfNeeded 1 = .ok (.iload_n 1, 1) := by decide +kernel
theorem dX4_makePlateIfNeeded_2 : decode cX4_makePlateIfNeeded 2 = .ok (.iload_n 2, 1) := by decide +kernel
theorem dX4_makePlateIfNeeded_3 : decode cX4_makePlateIfNeeded 3 = .ok (.iload_n 3, 1) := by decide +kernel
theorem dX4_makePlateIfNeeded_4 : decode cX4_makePlateIfNeeded 4 = .ok (.invokevirtual 271, 3) := by decide +kernel
theorem dX4_makePlateIfNeeded_7 : decode cX4_makePlateIfNeeded 7 = .ok (.iload_n 1, 1) := by decide +kernel
theorem dX4_makePlateIfNeeded_8 : decode cX4_makePlateIfNeeded 8 = .ok (.iload_n 2, 1) := by decide +kernel
theorem dX4_makePlateIfNeeded_9 : decode cX4_makePlateIfNeeded 9 = .ok (.iload_n 3, 1) := by decide +kernel
theorem dX4_makePlateIfNeeded_10 : decode cX4_makePlateIfNeeded 10 = .ok (.invokestatic 274, 3) := by decide +kernel
theorem dX4_makePlateIfNeeded_13 : decode cX4_makePlateIfNeeded 13 = .ok (.istore 4, 2) := by decide +kernel
theorem dX4_makePlateIfNeeded_15 : decode cX4_makePlateIfNeeded 15 = .ok (.aload_n 0, 1) := by decide +kernel
theorem dX4_makePlateIfNeeded_16 : decode cX4_makePlateIfNeeded 16 = .ok (.getfield 297, 3) := by decide +kernel
theorem dX4_makePlateIfNeeded_19 : decode cX4_makePlateIfNeeded 19 = .ok (.ifCond .eq 17, 3) := by decide +kernel
theorem dX4_makePlateIfNeeded_22 : decode cX4_makePlateIfNeeded 22 = .ok (.aload_n 0, 1) := by decide +kernel
theorem dX4_makePlateIfNeeded_23 : decode cX4_makePlateIfNeeded 23 = .ok (.aload_n 0, 1) := by decide +kernel
theorem dX4_makePlateIfNeeded_24 : decode cX4_makePlateIfNeeded 24 = .ok (.getfield 39, 3) := by decide +kernel
theorem dX4_makePlateIfNeeded_27 : decode cX4_makePlateIfNeeded 27 = .ok (.iload 4, 2) := by decide +kernel
theorem dX4_makePlateIfNeeded_29 : decode cX4_makePlateIfNeeded 29 = .ok (.aaload, 1) := by decide +kernel
theorem dX4_makePlateIfNeeded_30 : decode cX4_makePlateIfNeeded 30 = .ok (.invokevirtual 277, 3) := by decide +kernel
theorem dX4_makePlateIfNeeded_33 : decode cX4_makePlateIfNeeded 33 = .ok (.ifCond .eq 4, 3) := by decide +kernel
theorem dX4_makePlateIfNeeded_36 : decode cX4_makePlateIfNeeded 36 = .ok (.return_, 1) := by decide +kernel
theorem dX4_makePlateIfNeeded_37 : decode cX4_makePlateIfNeeded 37 = .ok (.aload_n 0, 1) := by decide +kernel
theorem dX4_makePlateIfNeeded_38 : decode cX4_makePlateIfNeeded 38 = .ok (.getfield 39, 3) := by decide +kernel
theorem dX4_makePlateIfNeeded_41 : decode cX4_makePlateIfNeeded 41 = .ok (.iload 4, 2) := by decide +kernel
theorem dX4_makePlateIfNeeded_43 : decode cX4_makePlateIfNeeded 43 = .ok (.aaload, 1) := by decide +kernel
theorem dX4_makePlateIfNeeded_44 : decode cX4_makePlateIfNeeded 44 = .ok (.ifnonnull 17, 3) := by decide +kernel
theorem dX4_makePlateIfNeeded_47 : decode cX4_makePlateIfNeeded 47 = .ok (.aload_n 0, 1) := by decide +kernel
theorem dX4_makePlateIfNeeded_48 : decode cX4_makePlateIfNeeded 48 = .ok (.getfield 39, 3) := by decide +kernel
theorem dX4_makePlateIfNeeded_51 : decode cX4_makePlateIfNeeded 51 = .ok (.iload 4, 2) := by decide +kernel
theorem dX4_makePlateIfNeeded_53 : decode cX4_makePlateIfNeeded 53 = .ok (.new 37, 3) := by decide +kernel
theorem dX4_makePlateIfNeeded_56 : decode cX4_makePlateIfNeeded 56 = .ok (.dup, 1) := by decide +kernel
theorem dX4_makePlateIfNeeded_57 : decode cX4_makePlateIfNeeded 57 = .ok (.invokespecial 300, 3) := by decide +kernel
theorem dX4_makePlateIfNeeded_60 : decode cX4_makePlateIfNeeded 60 = .ok (.aastore, 1) := by decide +kernel
theorem dX4_makePlateIfNeeded_61 : decode cX4_makePlateIfNeeded 61 = .ok (.aload_n 0, 1) := by decide +kernel
theorem dX4_makePlateIfNeeded_62 : decode cX4_makePlateIfNeeded 62 = .ok (.getfield 39, 3) := by decide +kernel
theorem dX4_makePlateIfNeeded_65 : decode cX4_makePlateIfNeeded 65 = .ok (.iload 4, 2) := by decide +kernel
theorem dX4_makePlateIfNeeded_67 : decode cX4_makePlateIfNeeded 67 = .ok (.aaload, 1) := by decide +kernel
theorem dX4_makePlateIfNeeded_68 : decode cX4_makePlateIfNeeded 68 = .ok (.aload_n 0, 1) := by decide +kernel
theorem dX4_makePlateIfNeeded_69 : decode cX4_makePlateIfNeeded 69 = .ok (.getfield 43, 3) := by decide +kernel
theorem dX4_makePlateIfNeeded_72 : decode cX4_makePlateIfNeeded 72 = .ok (.aload_n 0, 1) := by decide +kernel
theorem dX4_makePlateIfNeeded_73 : decode cX4_makePlateIfNeeded 73 = .ok (.getfield 297, 3) := by decide +kernel
theorem dX4_makePlateIfNeeded_76 : decode cX4_makePlateIfNeeded 76 = .ok (.invokevirtual 301, 3) := by decide +kernel
theorem dX4_makePlateIfNeeded_79 : decode cX4_makePlateIfNeeded 79 = .ok (.aload_n 0, 1) := by decide +kernel
theorem dX4_makePlateIfNeeded_80 : decode cX4_makePlateIfNeeded 80 = .ok (.dup, 1) := by decide +kernel
theorem dX4_makePlateIfNeeded_81 : decode cX4_makePlateIfNeeded 81 = .ok (.getfield 265, 3) := by decide +kernel
theorem dX4_makePlateIfNeeded_84 : decode cX4_makePlateIfNeeded 84 = .ok (.iconst 1, 1) := by decide +kernel
theorem dX4_makePlateIfNeeded_85 : decode cX4_makePlateIfNeeded 85 = .ok (.iadd, 1) := by decide +kernel
theorem dX4_makePlateIfNeeded_86 : decode cX4_makePlateIfNeeded 86 = .ok (.putfield 265, 3) := by decide +kernel
theorem dX4_makePlateIfNeeded_89 : decode cX4_makePlateIfNeeded 89 = .ok (.return_, 1) := by decide +kernel
theorem dX4_checkPlateLasts_0 : decode cX4_checkPlateLasts 0 = .ok (.aload_n 0, 1) := by decide +kernel
theorem dX4_checkPlateLasts_1 : decode cX4_checkPlateLasts 1 = .ok (.iload_n 1, 1) := by decide +kernel
theorem dX4_checkPlateLasts_2 : decode cX4_checkPlateLasts 2 = .ok (.iload_n 2, 1) := by decide +kernel
theorem dX4_checkPlateLasts_3 : decode cX4_checkPlateLasts 3 = .ok (.iload_n 3, 1) := by decide +kernel
theorem dX4_checkPlateLasts_4 : decode cX4_checkPlateLasts 4 = .ok (.invokevirtual 271, 3) := by decide +kernel
theorem dX4_checkPlateLasts_7 : decode cX4_checkPlateLasts 7 = .ok (.aload_n 0, 1) := by decide +kernel
theorem dX4_checkPlateLasts_8 : decode cX4_checkPlateLasts 8 = .ok (.getfield 297, 3) := by decide +kernel
theorem dX4_checkPlateLasts_11 : decode cX4_checkPlateLasts 11 = .ok (.ifCond .ne 4, 3) := by decide +kernel
theorem dX4_checkPlateLasts_14 : decode cX4_checkPlateLasts 14 = .ok (.return_, 1) := by decide +kernel
theorem dX4_checkPlateLasts_15 : decode cX4_checkPlateLasts 15 = .ok (.aload_n 0, 1) := by decide +kernel
theorem dX4_checkPlateLasts_16 : decode cX4_checkPlateLasts 16 = .ok (.getfield 39, 3) := by decide +kernel
theorem dX4_checkPlateLasts_19 : decode cX4_checkPlateLasts 19 = .ok (.iload_n 1, 1) := by decide +kernel
theorem dX4_checkPlateLasts_20 : decode cX4_checkPlateLasts 20 = .ok (.iload_n 2, 1) := by decide +kernel
theorem dX4_checkPlateLasts_21 : decode cX4_checkPlateLasts 21 = .ok (.iload_n 3, 1) := by decide +kernel
theorem dX4_checkPlateLasts_22 : decode cX4_checkPlateLasts 22 = .ok (.invokestatic 274, 3) := by decide +kernel
theorem dX4_checkPlateLasts_25 : decode cX4_checkPlateLasts 25 = .ok (.aaload, 1) := by decide +kernel
theorem dX4_checkPlateLasts_26 : decode cX4_checkPlateLasts 26 = .ok (.astore 5, 2) := by decide +kernel
theorem dX4_checkPlateLasts_28 : decode cX4_checkPlateLasts 28 = .ok (.aload_n 0, 1) := by decide +kernel
theorem dX4_checkPlateLasts_29 : decode cX4_checkPlateLasts 29 = .ok (.aload 5, 2) := by decide +kernel
theorem dX4_checkPlateLasts_31 : decode cX4_checkPlateLasts 31 = .ok (.invokevirtual 277, 3) := by decide +kernel
theorem dX4_checkPlateLasts_34 : decode cX4_checkPlateLasts 34 = .ok (.ifCond .ne 14, 3) := by decide +kernel
theorem dX4_checkPlateLasts_37 : decode cX4_checkPlateLasts 37 = .ok (.new 64, 3) := by decide +kernel
theorem dX4_checkPlateLasts_40 : decode cX4_checkPlateLasts 40 = .ok (.dup, 1) := by decide +kernel
theorem dX4_checkPlateLasts_41 : decode cX4_checkPlateLasts 41 = .ok (.ldc_w 305, 3) := by decide +kernel
theorem dX4_checkPlateLasts_44 : decode cX4_checkPlateLasts 44 = .ok (.invokespecial 68, 3) := by decide +kernel
theorem dX4_checkPlateLasts_47 : decode cX4_checkPlateLasts 47 = .ok (.athrow, 1) := by decide +kernel
theorem dX4_checkPlateLasts_48 : decode cX4_checkPlateLasts 48 = .ok (.aload 5, 2) := by decide +kernel
theorem dX4_checkPlateLasts_50 : decode cX4_checkPlateLasts 50 = .ok (.getfield 281, 3) := by decide +kernel
theorem dX4_checkPlateLasts_53 : decode cX4_checkPlateLasts 53 = .ok (.iload 4, 2) := by decide +kernel
theorem dX4_checkPlateLasts_55 : decode cX4_checkPlateLasts 55 = .ok (.iadd, 1) := by decide +kernel
theorem dX4_checkPlateLasts_56 : decode cX4_checkPlateLasts 56 = .ok (.sipush 1000, 3) := by decide +kernel
theorem dX4_checkPlateLasts_59 : decode cX4_checkPlateLasts 59 = .ok (.if_icmp .le 14, 3) := by decide +kernel
theorem dX4_checkPlateLasts_62 : decode cX4_checkPlateLasts 62 = .ok (.new 64, 3) := by decide +kernel
theorem dX4_checkPlateLasts_65 : decode cX4_checkPlateLasts 65 = .ok (.dup, 1) := by decide +kernel
theorem dX4_checkPlateLasts_66 : decode cX4_checkPlateLasts 66 = .ok (.ldc_w 307, 3) := by decide +kernel
theorem dX4_checkPlateLasts_69 : decode cX4_checkPlateLasts 69 = .ok (.invokespecial 68, 3) := by decide +kernel
theorem dX4_checkPlateLasts_72 : decode cX4_checkPlateLasts 72 = .ok (.athrow, 1) := by decide +kernel
theorem dX4_checkPlateLasts_73 : decode cX4_checkPlateLasts 73 = .ok (.return_, 1) := by decide +kernel
theorem dX4_usePlateIfNeeded_0 : decode cX4_usePlateIfNeeded 0 = .ok (.aload_n 0, 1) := by decide +kernel
theorem dX4_usePlateIfNeeded_1 : decode cX4_usePlateIfNeeded 1 = .ok (.iload_n 1, 1) := by decide +kernel
theorem dX4_usePlateIfNeeded_2 : decode cX4_usePlateIfNeeded 2 = .ok (.iload_n 2, 1) := by decide +kernel
theorem dX4_usePlateIfNeeded_3 : decode cX4_usePlateIfNeeded 3 = .ok (.iload_n 3, 1) := by decide +kernel
theorem dX4_usePlateIfNeeded_4 : decode cX4_usePlateIfNeeded 4 = .ok (.invokevirtual 271, 3) := by decide +kernel
theorem dX4_usePlateIfNeeded_7 : decode cX4_usePlateIfNeeded 7 = .ok (.aload_n 0, 1) := by decide +kernel
theorem dX4_usePlateIfNeeded_8 : decode cX4_usePlateIfNeeded 8 = .ok (.getfield 39, 3) := by decide +kernel
theorem dX4_usePlateIfNeeded_11 : decode cX4_usePlateIfNeeded 11 = .ok (.iload_n 1, 1) := by decide +kernel
theorem dX4_usePlateIfNeeded_12 : decode cX4_usePlateIfNeeded 12 = .ok (.iload_n 2, 1) := by decide +kernel
theorem dX4_usePlateIfNeeded_13 : decode cX4_usePlateIfNeeded 13 = .ok (.iload_n 3, 1) := by decide +kernel
theorem dX4_usePlateIfNeeded_14 : decode cX4_usePlateIfNeeded 14 = .ok (.invokestatic 274, 3) := by decide +kernel
theorem dX4_usePlateIfNeeded_17 : decode cX4_usePlateIfNeeded 17 = .ok (.aaload, 1) := by decide +kernel
theorem dX4_usePlateIfNeeded_18 : decode cX4_usePlateIfNeeded 18 = .ok (.astore 5, 2) := by decide +kernel
theorem dX4_usePlateIfNeeded_20 : decode cX4_usePlateIfNeeded 20 = .ok (.aload_n 0, 1) := by decide +kernel
theorem dX4_usePlateIfNeeded_21 : decode cX4_usePlateIfNeeded 21 = .ok (.getfield 297, 3) := by decide +kernel
theorem dX4_usePlateIfNeeded_24 : decode cX4_usePlateIfNeeded 24 = .ok (.ifCond .le 20, 3) := by decide +kernel
theorem dX4_usePlateIfNeeded_27 : decode cX4_usePlateIfNeeded 27 = .ok (.aload 5, 2) := by decide +kernel
theorem dX4_usePlateIfNeeded_29 : decode cX4_usePlateIfNeeded 29 = .ok (.ifnull 15, 3) := by decide +kernel
theorem dX4_usePlateIfNeeded_32 : decode cX4_usePlateIfNeeded 32 = .ok (.aload 5, 2) := by decide +kernel
theorem dX4_usePlateIfNeeded_34 : decode cX4_usePlateIfNeeded 34 = .ok (.dup, 1) := by decide +kernel
theorem dX4_usePlateIfNeeded_35 : decode cX4_usePlateIfNeeded 35 = .ok (.getfield 281, 3) := by decide +kernel
theorem dX4_usePlateIfNeeded_38 : decode cX4_usePlateIfNeeded 38 = .ok (.iload 4, 2) := by decide +kernel
theorem dX4_usePlateIfNeeded_40 : decode cX4_usePlateIfNeeded 40 = .ok (.iadd, 1) := by decide +kernel
theorem dX4_usePlateIfNeeded_41 : decode cX4_usePlateIfNeeded 41 = .ok (.putfield 281, 3) := by decide +kernel
theorem dX4_usePlateIfNeeded_44 : decode cX4_usePlateIfNeeded 44 = .ok (.return_, 1) := by decide +kernel
theorem dX4_slotOf_0 : decode cX4_slotOf 0 = .ok (.iload_n 0, 1) := by decide +kernel
theorem dX4_slotOf_1 : decode cX4_slotOf 1 = .ok (.iconst 2, 1) := by decide +kernel
theorem dX4_slotOf_2 : decode cX4_slotOf 2 = .ok (.imul, 1) := by decide +kernel
theorem dX4_slotOf_3 : decode cX4_slotOf 3 = .ok (.iload_n 1, 1) := by decide +kernel
theorem dX4_slotOf_4 : decode cX4_slotOf 4 = .ok (.iadd, 1) := by decide +kernel
theorem dX4_slotOf_5 : decode cX4_slotOf 5 = .ok (.iconst 4, 1) := by decide +kernel
theorem dX4_slotOf_6 : decode cX4_slotOf 6 = .ok (.imul, 1) := by decide +kernel
theorem dX4_slotOf_7 : decode cX4_slotOf 7 = .ok (.iload_n 2, 1) := by decide +kernel
theorem dX4_slotOf_8 : decode cX4_slotOf 8 = .ok (.iadd, 1) := by decide +kernel
theorem dX4_slotOf_9 : decode cX4_slotOf 9 = .ok (.ireturn, 1) := by decide +kernel
theorem dX4_good_0 : decode cX4_good 0 = .ok (.aload_n 1, 1) := by decide +kernel
theorem dX4_good_1 : decode cX4_good 1 = .ok (.ifnull 32, 3) := by decide +kernel
theorem dX4_good_4 : decode cX4_good 4 = .ok (.aload_n 1, 1) := by decide +kernel
theorem dX4_good_5 : decode cX4_good 5 = .ok (.getfield 281, 3) := by decide +kernel
theorem dX4_good_8 : decode cX4_good 8 = .ok (.sipush 1000, 3) := by decide +kernel
theorem dX4_good_11 : decode cX4_good 11 = .ok (.if_icmp .ge 22, 3) := by decide +kernel
theorem dX4_good_14 : decode cX4_good 14 = .ok (.aload_n 1, 1) := by decide +kernel
theorem dX4_good_15 : decode cX4_good 15 = .ok (.aload_n 0, 1) := by decide +kernel
theorem dX4_good_16 : decode cX4_good 16 = .ok (.getfield 43, 3) := by decide +kernel
theorem dX4_good_19 : decode cX4_good 19 = .ok (.aload_n 0, 1) := by decide +kernel
theorem dX4_good_20 : decode cX4_good 20 = .ok (.getfield 297, 3) := by decide +kernel
theorem dX4_good_23 : decode cX4_good 23 = .ok (.invokevirtual 309, 3) := by decide +kernel
theorem dX4_good_26 : decode cX4_good 26 = .ok (.ifCond .eq 7, 3) := by decide +kernel
theorem dX4_good_29 : decode cX4_good 29 = .ok (.iconst 1, 1) := by decide +kernel
theorem dX4_good_30 : decode cX4_good 30 = .ok (.goto 4, 3) := by decide +kernel
theorem dX4_good_33 : decode cX4_good 33 = .ok (.iconst 0, 1) := by decide +kernel
theorem dX4_good_34 : decode cX4_good 34 = .ok (.ireturn, 1) := by decide +kernel
theorem dX4_lookUp_0 : decode cX4_lookUp 0 = .ok (.aload_n 0, 1) := by decide +kernel
theorem dX4_lookUp_1 : decode cX4_lookUp 1 = .ok (.iconst 0, 1) := by decide +kernel
theorem dX4_lookUp_2 : decode cX4_lookUp 2 = .ok (.putfield 297, 3) := by decide +kernel
theorem dX4_lookUp_5 : decode cX4_lookUp 5 = .ok (.iconst 0, 1) := by decide +kernel
theorem dX4_lookUp_6 : decode cX4_lookUp 6 = .ok (.istore 4, 2) := by decide +kernel
theorem dX4_lookUp_8 : decode cX4_lookUp 8 = .ok (.iconst 0, 1) := by decide +kernel
theorem dX4_lookUp_9 : decode cX4_lookUp 9 = .ok (.istore 5, 2) := by decide +kernel
theorem dX4_lookUp_11 : decode cX4_lookUp 11 = .ok (.iload 5, 2) := by decide +kernel
theorem dX4_lookUp_13 : decode cX4_lookUp 13 = .ok (.aload_n 0, 1) := by decide +kernel
theorem dX4_lookUp_14 : decode cX4_lookUp 14 = .ok (.getfield 18, 3) := by decide +kernel
theorem dX4_lookUp_17 : decode cX4_lookUp 17 = .ok (.getfield 117, 3) := by decide +kernel
theorem dX4_lookUp_20 : decode cX4_lookUp 20 = .ok (.if_icmp .ge 116, 3) := by decide +kernel
theorem dX4_lookUp_23 : decode cX4_lookUp 23 = .ok (.iconst 0, 1) := by decide +kernel
theorem dX4_lookUp_24 : decode cX4_lookUp 24 = .ok (.istore 6, 2) := by decide +kernel
theorem dX4_lookUp_26 : decode cX4_lookUp 26 = .ok (.iload 6, 2) := by decide +kernel
theorem dX4_lookUp_28 : decode cX4_lookUp 28 = .ok (.aload_n 0, 1) := by decide +kernel
theorem dX4_lookUp_29 : decode cX4_lookUp 29 = .ok (.getfield 18, 3) := by decide +kernel
theorem dX4_lookUp_32 : decode cX4_lookUp 32 = .ok (.getfield 120, 3) := by decide +kernel
theorem dX4_lookUp_35 : decode cX4_lookUp 35 = .ok (.if_icmp .ge 95, 3) := by decide +kernel
theorem dX4_lookUp_38 : decode cX4_lookUp 38 = .ok (.aload_n 0, 1) := by decide +kernel
theorem dX4_lookUp_39 : decode cX4_lookUp 39 = .ok (.iload_n 1, 1) := by decide +kernel
theorem dX4_lookUp_40 : decode cX4_lookUp 40 = .ok (.aload_n 0, 1) := by decide +kernel
theorem dX4_lookUp_41 : decode cX4_lookUp 41 = .ok (.getfield 18, 3) := by decide +kernel
theorem dX4_lookUp_44 : decode cX4_lookUp 44 = .ok (.getfield 127, 3) := by decide +kernel
theorem dX4_lookUp_47 : decode cX4_lookUp 47 = .ok (.iload 4, 2) := by decide +kernel
theorem dX4_lookUp_49 : decode cX4_lookUp 49 = .ok (.iload_n 2, 1) := by decide +kernel
theorem dX4_lookUp_50 : decode cX4_lookUp 50 = .ok (.invokestatic 131, 3) := by decide +kernel
theorem dX4_lookUp_53 : decode cX4_lookUp 53 = .ok (.iaload, 1) := by decide +kernel
theorem dX4_lookUp_54 : decode cX4_lookUp 54 = .ok (.invokevirtual 135, 3) := by decide +kernel
theorem dX4_lookUp_57 : decode cX4_lookUp 57 = .ok (.istore 7, 2) := by decide +kernel
theorem dX4_lookUp_59 : decode cX4_lookUp 59 = .ok (.iload 7, 2) := by decide +kernel
theorem dX4_lookUp_61 : decode cX4_lookUp 61 = .ok (.ifCond .lt 60, 3) := by decide +kernel
theorem dX4_lookUp_64 : decode cX4_lookUp 64 = .ok (.aload_n 0, 1) := by decide +kernel
theorem dX4_lookUp_65 : decode cX4_lookUp 65 = .ok (.getfield 11, 3) := by decide +kernel
theorem dX4_lookUp_68 : decode cX4_lookUp 68 = .ok (.iload 7, 2) := by decide +kernel
theorem dX4_lookUp_70 : decode cX4_lookUp 70 = .ok (.aaload, 1) := by decide +kernel
theorem dX4_lookUp_71 : decode cX4_lookUp 71 = .ok (.iload_n 3, 1) := by decide +kernel
theorem dX4_lookUp_72 : decode cX4_lookUp 72 = .ok (.invokevirtual 226, 3) := by decide +kernel
theorem dX4_lookUp_75 : decode cX4_lookUp 75 = .ok (.ifCond .eq 46, 3) := by decide +kernel
theorem dX4_lookUp_78 : decode cX4_lookUp 78 = .ok (.aload_n 0, 1) := by decide +kernel
theorem dX4_lookUp_79 : decode cX4_lookUp 79 = .ok (.getfield 43, 3) := by decide +kernel
theorem dX4_lookUp_82 : decode cX4_lookUp 82 = .ok (.aload_n 0, 1) := by decide +kernel
theorem dX4_lookUp_83 : decode cX4_lookUp 83 = .ok (.getfield 297, 3) := by decide +kernel
theorem dX4_lookUp_86 : decode cX4_lookUp 86 = .ok (.aload_n 0, 1) := by decide +kernel
theorem dX4_lookUp_87 : decode cX4_lookUp 87 = .ok (.getfield 11, 3) := by decide +kernel
theorem dX4_lookUp_90 : decode cX4_lookUp 90 = .ok (.iload 7, 2) := by decide +kernel
theorem dX4_lookUp_92 : decode cX4_lookUp 92 = .ok (.aaload, 1) := by decide +kernel
theorem dX4_lookUp_93 : decode cX4_lookUp 93 = .ok (.iload 5, 2) := by decide +kernel
theorem dX4_lookUp_95 : decode cX4_lookUp 95 = .ok (.iload 6, 2) := by decide +kernel
theorem dX4_lookUp_97 : decode cX4_lookUp 97 = .ok (.aload_n 0, 1) := by decide +kernel
theorem dX4_lookUp_98 : decode cX4_lookUp 98 = .ok (.getfield 18, 3) := by decide +kernel
theorem dX4_lookUp_101 : decode cX4_lookUp 101 = .ok (.getfield 152, 3) := by decide +kernel
theorem dX4_lookUp_104 : decode cX4_lookUp 104 = .ok (.iload 4, 2) := by decide +kernel
theorem dX4_lookUp_106 : decode cX4_lookUp 106 = .ok (.baload, 1) := by decide +kernel
theorem dX4_lookUp_107 : decode cX4_lookUp 107 = .ok (.invokestatic 313, 3) := by decide +kernel
theorem dX4_lookUp_110 : decode cX4_lookUp 110 = .ok (.lastore, 1) := by decide +kernel
theorem dX4_lookUp_111 : decode cX4_lookUp 111 = .ok (.aload_n 0, 1) := by decide +kernel
theorem dX4_lookUp_112 : decode cX4_lookUp 112 = .ok (.dup, 1) := by decide +kernel
theorem dX4_lookUp_113 : decode cX4_lookUp 113 = .ok (.getfield 297, 3) := by decide +kernel
theorem dX4_lookUp_116 : decode cX4_lookUp 116 = .ok (.iconst 1, 1) := by decide +kernel
theorem dX4_lookUp_117 : decode cX4_lookUp 117 = .ok (.iadd, 1) := by decide +kernel
theorem dX4_lookUp_118 : decode cX4_lookUp 118 = .ok (.putfield 297, 3) := by decide +kernel
theorem dX4_lookUp_121 : decode cX4_lookUp 121 = .ok (.iinc 4 1, 3) := by decide +kernel
theorem dX4_lookUp_124 : decode cX4_lookUp 124 = .ok (.iinc 6 1, 3) := by decide +kernel
theorem dX4_lookUp_127 : decode cX4_lookUp 127 = .ok (.goto (-101), 3) := by decide +kernel
theorem dX4_lookUp_130 : decode cX4_lookUp 130 = .ok (.iinc 5 1, 3) := by decide +kernel
theorem dX4_lookUp_133 : decode cX4_lookUp 133 = .ok (.goto (-122), 3) := by decide +kernel
theorem dX4_lookUp_136 : decode cX4_lookUp 136 = .ok (.return_, 1) := by decide +kernel
theorem dX4_markOf_0 : decode cX4_markOf 0 = .ok (.iload_n 1, 1) := by decide +kernel
theorem dX4_markOf_1 : decode cX4_markOf 1 = .ok (.bipush 16, 2) := by decide +kernel
theorem dX4_markOf_3 : decode cX4_markOf 3 = .ok (.imul, 1) := by decide +kernel
theorem dX4_markOf_4 : decode cX4_markOf 4 = .ok (.iload_n 2, 1) := by decide +kernel
theorem dX4_markOf_5 : decode cX4_markOf 5 = .ok (.iadd, 1) := by decide +kernel
theorem dX4_markOf_6 : decode cX4_markOf 6 = .ok (.iconst 2, 1) := by decide +kernel
theorem dX4_markOf_7 : decode cX4_markOf 7 = .ok (.imul, 1) := by decide +kernel
theorem dX4_markOf_8 : decode cX4_markOf 8 = .ok (.iload_n 3, 1) := by decide +kernel
theorem dX4_markOf_9 : decode cX4_markOf 9 = .ok (.ifCond .eq 7, 3) := by decide +kernel
theorem dX4_markOf_12 : decode cX4_markOf 12 = .ok (.iconst 1, 1) := by decide +kernel
theorem dX4_markOf_13 : decode cX4_markOf 13 = .ok (.goto 4, 3) := by decide +kernel
theorem dX4_markOf_16 : decode cX4_markOf 16 = .ok (.iconst 0, 1) := by decide +kernel
theorem dX4_markOf_17 : decode cX4_markOf 17 = .ok (.iadd, 1) := by decide +kernel
theorem dX4_markOf_18 : decode cX4_markOf 18 = .ok (.i2l, 1) := by decide +kernel
theorem dX4_markOf_19 : decode cX4_markOf 19 = .ok (.lstore 4, 2) := by decide +kernel
theorem dX4_markOf_21 : decode cX4_markOf 21 = .ok (.aload_n 0, 1) := by decide +kernel
theorem dX4_markOf_22 : decode cX4_markOf 22 = .ok (.getfield 82, 3) := by decide +kernel
theorem dX4_markOf_25 : decode cX4_markOf 25 = .ok (.i2l, 1) := by decide +kernel
theorem dX4_markOf_26 : decode cX4_markOf 26 = .ok (.ldc2_w 317, 3) := by decide +kernel
theorem dX4_markOf_29 : decode cX4_markOf 29 = .ok (.lmul, 1) := by decide +kernel
theorem dX4_markOf_30 : decode cX4_markOf 30 = .ok (.aload_n 0, 1) := by decide +kernel
theorem dX4_markOf_31 : decode cX4_markOf 31 = .ok (.getfield 319, 3) := by decide +kernel
theorem dX4_markOf_34 : decode cX4_markOf 34 = .ok (.i2l, 1) := by decide +kernel
theorem dX4_markOf_35 : decode cX4_markOf 35 = .ok (.ladd, 1) := by decide +kernel
theorem dX4_markOf_36 : decode cX4_markOf 36 = .ok (.lstore 6, 2) := by decide +kernel
theorem dX4_markOf_38 : decode cX4_markOf 38 = .ok (.lload 6, 2) := by decide +kernel
theorem dX4_markOf_40 : decode cX4_markOf 40 = .ok (.ldc2_w 322, 3) := by decide +kernel
theorem dX4_markOf_43 : decode cX4_markOf 43 = .ok (.lmul, 1) := by decide +kernel
theorem dX4_markOf_44 : decode cX4_markOf 44 = .ok (.lload 4, 2) := by decide +kernel
theorem dX4_markOf_46 : decode cX4_markOf 46 = .ok (.ladd, 1) := by decide +kernel
theorem dX4_markOf_47 : decode cX4_markOf 47 = .ok (.lreturn, 1) := by decide +kernel
theorem dJ6_bitCount_0f7a4_0 : decode cJ6_bitCount_0f7a4 0 = .ok (.iload_n 0, 1) := by decide +kernel
theorem dJ6_bitCount_0f7a4_1 : decode cJ6_bitCount_0f7a4 1 = .ok (.iload_n 0, 1) := by decide +kernel
theorem dJ6_bitCount_0f7a4_2 : decode cJ6_bitCount_0f7a4 2 = .ok (.iconst 1, 1) := by decide +kernel
theorem dJ6_bitCount_0f7a4_3 : decode cJ6_bitCount_0f7a4 3 = .ok (.iushr, 1) := by decide +kernel
theorem dJ6_bitCount_0f7a4_4 : decode cJ6_bitCount_0f7a4 4 = .ok (.ldc_w 265, 3) := by decide +kernel
theorem dJ6_bitCount_0f7a4_7 : decode cJ6_bitCount_0f7a4 7 = .ok (.iand, 1) := by decide +kernel
theorem dJ6_bitCount_0f7a4_8 : decode cJ6_bitCount_0f7a4 8 = .ok (.isub, 1) := by decide +kernel
theorem dJ6_bitCount_0f7a4_9 : decode cJ6_bitCount_0f7a4 9 = .ok (.istore_n 0, 1) := by decide +kernel
theorem dJ6_bitCount_0f7a4_10 : decode cJ6_bitCount_0f7a4 10 = .ok (.iload_n 0, 1) := by decide +kernel
theorem dJ6_bitCount_0f7a4_11 : decode cJ6_bitCount_0f7a4 11 = .ok (.ldc_w 266, 3) := by decide +kernel
theorem dJ6_bitCount_0f7a4_14 : decode cJ6_bitCount_0f7a4 14 = .ok (.iand, 1) := by decide +kernel
theorem dJ6_bitCount_0f7a4_15 : decode cJ6_bitCount_0f7a4 15 = .ok (.iload_n 0, 1) := by decide +kernel
theorem dJ6_bitCount_0f7a4_16 : decode cJ6_bitCount_0f7a4 16 = .ok (.iconst 2, 1) := by decide +kernel
theorem dJ6_bitCount_0f7a4_17 : decode cJ6_bitCount_0f7a4 17 = .ok (.iushr, 1) := by decide +kernel
theorem dJ6_bitCount_0f7a4_18 : decode cJ6_bitCount_0f7a4 18 = .ok (.ldc_w 266, 3) := by decide +kernel
theorem dJ6_bitCount_0f7a4_21 : decode cJ6_bitCount_0f7a4 21 = .ok (.iand, 1) := by decide +kernel
theorem dJ6_bitCount_0f7a4_22 : decode cJ6_bitCount_0f7a4 22 = .ok (.iadd, 1) := by decide +kernel
theorem dJ6_bitCount_0f7a4_23 : decode cJ6_bitCount_0f7a4 23 = .ok (.istore_n 0, 1) := by decide +kernel
theorem dJ6_bitCount_0f7a4_24 : decode cJ6_bitCount_0f7a4 24 = .ok (.iload_n 0, 1) := by decide +kernel
theorem dJ6_bitCount_0f7a4_25 : decode cJ6_bitCount_0f7a4 25 = .ok (.iload_n 0, 1) := by decide +kernel
theorem dJ6_bitCount_0f7a4_26 : decode cJ6_bitCount_0f7a4 26 = .ok (.iconst 4, 1) := by decide +kernel
theorem dJ6_bitCount_0f7a4_27 : decode cJ6_bitCount_0f7a4 27 = .ok (.iushr, 1) := by decide +kernel
theorem dJ6_bitCount_0f7a4_28 : decode cJ6_bitCount_0f7a4 28 = .ok (.iadd, 1) := by decide +kernel
theorem dJ6_bitCount_0f7a4_29 : decode cJ6_bitCount_0f7a4 29 = .ok (.ldc_w 267, 3) := by decide +kernel
theorem dJ6_bitCount_0f7a4_32 : decode cJ6_bitCount_0f7a4 32 = .ok (.iand, 1) := by decide +kernel
theorem dJ6_bitCount_0f7a4_33 : decode cJ6_bitCount_0f7a4 33 = .ok (.istore_n 0, 1) := by decide +kernel
theorem dJ6_bitCount_0f7a4_34 : decode cJ6_bitCount_0f7a4 34 = .ok (.iload_n 0, 1) := by decide +kernel
theorem dJ6_bitCount_0f7a4_35 : decode cJ6_bitCount_0f7a4 35 = .ok (.iload_n 0, 1) := by decide +kernel
theorem dJ6_bitCount_0f7a4_36 : decode cJ6_bitCount_0f7a4 36 = .ok (.bipush 8, 2) := by decide +kernel
theorem dJ6_bitCount_0f7a4_38 : decode cJ6_bitCount_0f7a4 38 = .ok (.iushr, 1) := by decide +kernel
theorem dJ6_bitCount_0f7a4_39 : decode cJ6_bitCount_0f7a4 39 = .ok (.iadd, 1) := by decide +kernel
theorem dJ6_bitCount_0f7a4_40 : decode cJ6_bitCount_0f7a4 40 = .ok (.istore_n 0, 1) := by decide +kernel
theorem dJ6_bitCount_0f7a4_41 : decode cJ6_bitCount_0f7a4 41 = .ok (.iload_n 0, 1) := by decide +kernel
theorem dJ6_bitCount_0f7a4_42 : decode cJ6_bitCount_0f7a4 42 = .ok (.iload_n 0, 1) := by decide +kernel
theorem dJ6_bitCount_0f7a4_43 : decode cJ6_bitCount_0f7a4 43 = .ok (.bipush 16, 2) := by decide +kernel
theorem dJ6_bitCount_0f7a4_45 : decode cJ6_bitCount_0f7a4 45 = .ok (.iushr, 1) := by decide +kernel
theorem dJ6_bitCount_0f7a4_46 : decode cJ6_bitCount_0f7a4 46 = .ok (.iadd, 1) := by decide +kernel
theorem dJ6_bitCount_0f7a4_47 : decode cJ6_bitCount_0f7a4 47 = .ok (.istore_n 0, 1) := by decide +kernel
theorem dJ6_bitCount_0f7a4_48 : decode cJ6_bitCount_0f7a4 48 = .ok (.iload_n 0, 1) := by decide +kernel
theorem dJ6_bitCount_0f7a4_49 : decode cJ6_bitCount_0f7a4 49 = .ok (.bipush 63, 2) := by decide +kernel
theorem dJ6_bitCount_0f7a4_51 : decode cJ6_bitCount_0f7a4 51 = .ok (.iand, 1) := by decide +kernel
theorem dJ6_bitCount_0f7a4_52 : decode cJ6_bitCount_0f7a4 52 = .ok (.ireturn, 1) := by decide +kernel
theorem dJ9_min_7cf53_0 : decode cJ9_min_7cf53 0 = .ok (.iload_n 0, 1) := by decide +kernel
theorem dJ9_min_7cf53_1 : decode cJ9_min_7cf53 1 = .ok (.iload_n 1, 1) := by decide +kernel
theorem dJ9_min_7cf53_2 : decode cJ9_min_7cf53 2 = .ok (.if_icmp .gt 7, 3) := by decide +kernel
theorem dJ9_min_7cf53_5 : decode cJ9_min_7cf53 5 = .ok (.iload_n 0, 1) := by decide +kernel
theorem dJ9_min_7cf53_6 : decode cJ9_min_7cf53 6 = .ok (.goto 4, 3) := by decide +kernel
theorem dJ9_min_7cf53_9 : decode cJ9_min_7cf53 9 = .ok (.iload_n 1, 1) := by decide +kernel
theorem dJ9_min_7cf53_10 : decode cJ9_min_7cf53 10 = .ok (.ireturn, 1) := by decide +kernel
