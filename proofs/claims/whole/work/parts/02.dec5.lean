theorem d_Mod_keptAt_0 : decode b_Mod_keptAt 0 = .ok (.bipush 8, 2) := by decide +kernel
theorem d_Mod_keptAt_2 : decode b_Mod_keptAt 2 = .ok (.istore_n 2, 1) := by decide +kernel
theorem d_Mod_keptAt_3 : decode b_Mod_keptAt 3 = .ok (.iload_n 2, 1) := by decide +kernel
theorem d_Mod_keptAt_4 : decode b_Mod_keptAt 4 = .ok (.bipush 8, 2) := by decide +kernel
theorem d_Mod_keptAt_6 : decode b_Mod_keptAt 6 = .ok (.aload_n 0, 1) := by decide +kernel
theorem d_Mod_keptAt_7 : decode b_Mod_keptAt 7 = .ok (.getfield 70, 3) := by decide +kernel
theorem d_Mod_keptAt_10 : decode b_Mod_keptAt 10 = .ok (.iadd, 1) := by decide +kernel
theorem d_Mod_keptAt_11 : decode b_Mod_keptAt 11 = .ok (.if_icmp .ge 30, 3) := by decide +kernel
theorem d_Mod_keptAt_14 : decode b_Mod_keptAt 14 = .ok (.aload_n 0, 1) := by decide +kernel
theorem d_Mod_keptAt_15 : decode b_Mod_keptAt 15 = .ok (.getfield 7, 3) := by decide +kernel
theorem d_Mod_keptAt_18 : decode b_Mod_keptAt 18 = .ok (.iload_n 2, 1) := by decide +kernel
theorem d_Mod_keptAt_19 : decode b_Mod_keptAt 19 = .ok (.baload, 1) := by decide +kernel
theorem d_Mod_keptAt_20 : decode b_Mod_keptAt 20 = .ok (.ifCond .eq 15, 3) := by decide +kernel
theorem d_Mod_keptAt_23 : decode b_Mod_keptAt 23 = .ok (.aload_n 0, 1) := by decide +kernel
theorem d_Mod_keptAt_24 : decode b_Mod_keptAt 24 = .ok (.getfield 13, 3) := by decide +kernel
theorem d_Mod_keptAt_27 : decode b_Mod_keptAt 27 = .ok (.iload_n 2, 1) := by decide +kernel
theorem d_Mod_keptAt_28 : decode b_Mod_keptAt 28 = .ok (.iaload, 1) := by decide +kernel
theorem d_Mod_keptAt_29 : decode b_Mod_keptAt 29 = .ok (.iload_n 1, 1) := by decide +kernel
theorem d_Mod_keptAt_30 : decode b_Mod_keptAt 30 = .ok (.if_icmp .ne 5, 3) := by decide +kernel
theorem d_Mod_keptAt_33 : decode b_Mod_keptAt 33 = .ok (.iload_n 2, 1) := by decide +kernel
theorem d_Mod_keptAt_34 : decode b_Mod_keptAt 34 = .ok (.ireturn, 1) := by decide +kernel
theorem d_Mod_keptAt_35 : decode b_Mod_keptAt 35 = .ok (.iinc 2 1, 3) := by decide +kernel
theorem d_Mod_keptAt_38 : decode b_Mod_keptAt 38 = .ok (.goto (-35), 3) := by decide +kernel
theorem d_Mod_keptAt_41 : decode b_Mod_keptAt 41 = .ok (.iconst (-1), 1) := by decide +kernel
theorem d_Mod_keptAt_42 : decode b_Mod_keptAt 42 = .ok (.ireturn, 1) := by decide +kernel
theorem d_Mod_copy_0 : decode b_Mod_copy 0 = .ok (.aload_n 0, 1) := by decide +kernel
theorem d_Mod_copy_1 : decode b_Mod_copy 1 = .ok (.getfield 7, 3) := by decide +kernel
theorem d_Mod_copy_4 : decode b_Mod_copy 4 = .ok (.iload_n 2, 1) := by decide +kernel
theorem d_Mod_copy_5 : decode b_Mod_copy 5 = .ok (.iconst 1, 1) := by decide +kernel
theorem d_Mod_copy_6 : decode b_Mod_copy 6 = .ok (.bastore, 1) := by decide +kernel
theorem d_Mod_copy_7 : decode b_Mod_copy 7 = .ok (.aload_n 0, 1) := by decide +kernel
theorem d_Mod_copy_8 : decode b_Mod_copy 8 = .ok (.getfield 13, 3) := by decide +kernel
theorem d_Mod_copy_11 : decode b_Mod_copy 11 = .ok (.iload_n 2, 1) := by decide +kernel
theorem d_Mod_copy_12 : decode b_Mod_copy 12 = .ok (.aload_n 0, 1) := by decide +kernel
theorem d_Mod_copy_13 : decode b_Mod_copy 13 = .ok (.getfield 13, 3) := by decide +kernel
theorem d_Mod_copy_16 : decode b_Mod_copy 16 = .ok (.iload_n 1, 1) := by decide +kernel
theorem d_Mod_copy_17 : decode b_Mod_copy 17 = .ok (.iaload, 1) := by decide +kernel
theorem d_Mod_copy_18 : decode b_Mod_copy 18 = .ok (.iastore, 1) := by decide +kernel
theorem d_Mod_copy_19 : decode b_Mod_copy 19 = .ok (.aload_n 0, 1) := by decide +kernel
theorem d_Mod_copy_20 : decode b_Mod_copy 20 = .ok (.getfield 17, 3) := by decide +kernel
theorem d_Mod_copy_23 : decode b_Mod_copy 23 = .ok (.iload_n 2, 1) := by decide +kernel
theorem d_Mod_copy_24 : decode b_Mod_copy 24 = .ok (.aload_n 0, 1) := by decide +kernel
theorem d_Mod_copy_25 : decode b_Mod_copy 25 = .ok (.getfield 17, 3) := by decide +kernel
theorem d_Mod_copy_28 : decode b_Mod_copy 28 = .ok (.iload_n 1, 1) := by decide +kernel
theorem d_Mod_copy_29 : decode b_Mod_copy 29 = .ok (.iaload, 1) := by decide +kernel
theorem d_Mod_copy_30 : decode b_Mod_copy 30 = .ok (.iastore, 1) := by decide +kernel
theorem d_Mod_copy_31 : decode b_Mod_copy 31 = .ok (.aload_n 0, 1) := by decide +kernel
theorem d_Mod_copy_32 : decode b_Mod_copy 32 = .ok (.getfield 20, 3) := by decide +kernel
theorem d_Mod_copy_35 : decode b_Mod_copy 35 = .ok (.iload_n 2, 1) := by decide +kernel
theorem d_Mod_copy_36 : decode b_Mod_copy 36 = .ok (.aload_n 0, 1) := by decide +kernel
theorem d_Mod_copy_37 : decode b_Mod_copy 37 = .ok (.getfield 20, 3) := by decide +kernel
theorem d_Mod_copy_40 : decode b_Mod_copy 40 = .ok (.iload_n 1, 1) := by decide +kernel
theorem d_Mod_copy_41 : decode b_Mod_copy 41 = .ok (.iaload, 1) := by decide +kernel
theorem d_Mod_copy_42 : decode b_Mod_copy 42 = .ok (.iastore, 1) := by decide +kernel
theorem d_Mod_copy_43 : decode b_Mod_copy 43 = .ok (.aload_n 0, 1) := by decide +kernel
theorem d_Mod_copy_44 : decode b_Mod_copy 44 = .ok (.getfield 23, 3) := by decide +kernel
theorem d_Mod_copy_47 : decode b_Mod_copy 47 = .ok (.iload_n 2, 1) := by decide +kernel
theorem d_Mod_copy_48 : decode b_Mod_copy 48 = .ok (.aload_n 0, 1) := by decide +kernel
theorem d_Mod_copy_49 : decode b_Mod_copy 49 = .ok (.getfield 23, 3) := by decide +kernel
theorem d_Mod_copy_52 : decode b_Mod_copy 52 = .ok (.iload_n 1, 1) := by decide +kernel
theorem d_Mod_copy_53 : decode b_Mod_copy 53 = .ok (.iaload, 1) := by decide +kernel
theorem d_Mod_copy_54 : decode b_Mod_copy 54 = .ok (.iastore, 1) := by decide +kernel
theorem d_Mod_copy_55 : decode b_Mod_copy 55 = .ok (.iconst 0, 1) := by decide +kernel
theorem d_Mod_copy_56 : decode b_Mod_copy 56 = .ok (.istore_n 3, 1) := by decide +kernel
theorem d_Mod_copy_57 : decode b_Mod_copy 57 = .ok (.iload_n 3, 1) := by decide +kernel
theorem d_Mod_copy_58 : decode b_Mod_copy 58 = .ok (.iconst 4, 1) := by decide +kernel
theorem d_Mod_copy_59 : decode b_Mod_copy 59 = .ok (.if_icmp .ge 29, 3) := by decide +kernel
theorem d_Mod_copy_62 : decode b_Mod_copy 62 = .ok (.aload_n 0, 1) := by decide +kernel
theorem d_Mod_copy_63 : decode b_Mod_copy 63 = .ok (.getfield 26, 3) := by decide +kernel
theorem d_Mod_copy_66 : decode b_Mod_copy 66 = .ok (.iconst 4, 1) := by decide +kernel
theorem d_Mod_copy_67 : decode b_Mod_copy 67 = .ok (.iload_n 2, 1) := by decide +kernel
theorem d_Mod_copy_68 : decode b_Mod_copy 68 = .ok (.imul, 1) := by decide +kernel
theorem d_Mod_copy_69 : decode b_Mod_copy 69 = .ok (.iload_n 3, 1) := by decide +kernel
theorem d_Mod_copy_70 : decode b_Mod_copy 70 = .ok (.iadd, 1) := by decide +kernel
theorem d_Mod_copy_71 : decode b_Mod_copy 71 = .ok (.aload_n 0, 1) := by decide +kernel
theorem d_Mod_copy_72 : decode b_Mod_copy 72 = .ok (.getfield 26, 3) := by decide +kernel
theorem d_Mod_copy_75 : decode b_Mod_copy 75 = .ok (.iconst 4, 1) := by decide +kernel
theorem d_Mod_copy_76 : decode b_Mod_copy 76 = .ok (.iload_n 1, 1) := by decide +kernel
theorem d_Mod_copy_77 : decode b_Mod_copy 77 = .ok (.imul, 1) := by decide +kernel
theorem d_Mod_copy_78 : decode b_Mod_copy 78 = .ok (.iload_n 3, 1) := by decide +kernel
theorem d_Mod_copy_79 : decode b_Mod_copy 79 = .ok (.iadd, 1) := by decide +kernel
theorem d_Mod_copy_80 : decode b_Mod_copy 80 = .ok (.iaload, 1) := by decide +kernel
theorem d_Mod_copy_81 : decode b_Mod_copy 81 = .ok (.iastore, 1) := by decide +kernel
theorem d_Mod_copy_82 : decode b_Mod_copy 82 = .ok (.iinc 3 1, 3) := by decide +kernel
theorem d_Mod_copy_85 : decode b_Mod_copy 85 = .ok (.goto (-28), 3) := by decide +kernel
theorem d_Mod_copy_88 : decode b_Mod_copy 88 = .ok (.iconst 0, 1) := by decide +kernel
theorem d_Mod_copy_89 : decode b_Mod_copy 89 = .ok (.istore_n 3, 1) := by decide +kernel
theorem d_Mod_copy_90 : decode b_Mod_copy 90 = .ok (.iload_n 3, 1) := by decide +kernel
theorem d_Mod_copy_91 : decode b_Mod_copy 91 = .ok (.sipush 160, 3) := by decide +kernel
theorem d_Mod_copy_94 : decode b_Mod_copy 94 = .ok (.if_icmp .ge 57, 3) := by decide +kernel
theorem d_Mod_copy_97 : decode b_Mod_copy 97 = .ok (.aload_n 0, 1) := by decide +kernel
theorem d_Mod_copy_98 : decode b_Mod_copy 98 = .ok (.getfield 29, 3) := by decide +kernel
theorem d_Mod_copy_101 : decode b_Mod_copy 101 = .ok (.sipush 160, 3) := by decide +kernel
theorem d_Mod_copy_104 : decode b_Mod_copy 104 = .ok (.iload_n 2, 1) := by decide +kernel
theorem d_Mod_copy_105 : decode b_Mod_copy 105 = .ok (.imul, 1) := by decide +kernel
theorem d_Mod_copy_106 : decode b_Mod_copy 106 = .ok (.iload_n 3, 1) := by decide +kernel
theorem d_Mod_copy_107 : decode b_Mod_copy 107 = .ok (.iadd, 1) := by decide +kernel
theorem d_Mod_copy_108 : decode b_Mod_copy 108 = .ok (.aload_n 0, 1) := by decide +kernel
theorem d_Mod_copy_109 : decode b_Mod_copy 109 = .ok (.getfield 29, 3) := by decide +kernel
theorem d_Mod_copy_112 : decode b_Mod_copy 112 = .ok (.sipush 160, 3) := by decide +kernel
theorem d_Mod_copy_115 : decode b_Mod_copy 115 = .ok (.iload_n 1, 1) := by decide +kernel
theorem d_Mod_copy_116 : decode b_Mod_copy 116 = .ok (.imul, 1) := by decide +kernel
theorem d_Mod_copy_117 : decode b_Mod_copy 117 = .ok (.iload_n 3, 1) := by decide +kernel
theorem d_Mod_copy_118 : decode b_Mod_copy 118 = .ok (.iadd, 1) := by decide +kernel
theorem d_Mod_copy_119 : decode b_Mod_copy 119 = .ok (.iaload, 1) := by decide +kernel
theorem d_Mod_copy_120 : decode b_Mod_copy 120 = .ok (.iastore, 1) := by decide +kernel
theorem d_Mod_copy_121 : decode b_Mod_copy 121 = .ok (.aload_n 0, 1) := by decide +kernel
theorem d_Mod_copy_122 : decode b_Mod_copy 122 = .ok (.getfield 32, 3) := by decide +kernel
theorem d_Mod_copy_125 : decode b_Mod_copy 125 = .ok (.sipush 160, 3) := by decide +kernel
theorem d_Mod_copy_128 : decode b_Mod_copy 128 = .ok (.iload_n 2, 1) := by decide +kernel
theorem d_Mod_copy_129 : decode b_Mod_copy 129 = .ok (.imul, 1) := by decide +kernel
theorem d_Mod_copy_130 : decode b_Mod_copy 130 = .ok (.iload_n 3, 1) := by decide +kernel
theorem d_Mod_copy_131 : decode b_Mod_copy 131 = .ok (.iadd, 1) := by decide +kernel
theorem d_Mod_copy_132 : decode b_Mod_copy 132 = .ok (.aload_n 0, 1) := by decide +kernel
theorem d_Mod_copy_133 : decode b_Mod_copy 133 = .ok (.getfield 32, 3) := by decide +kernel
theorem d_Mod_copy_136 : decode b_Mod_copy 136 = .ok (.sipush 160, 3) := by decide +kernel
theorem d_Mod_copy_139 : decode b_Mod_copy 139 = .ok (.iload_n 1, 1) := by decide +kernel
theorem d_Mod_copy_140 : decode b_Mod_copy 140 = .ok (.imul, 1) := by decide +kernel
theorem d_Mod_copy_141 : decode b_Mod_copy 141 = .ok (.iload_n 3, 1) := by decide +kernel
theorem d_Mod_copy_142 : decode b_Mod_copy 142 = .ok (.iadd, 1) := by decide +kernel
theorem d_Mod_copy_143 : decode b_Mod_copy 143 = .ok (.iaload, 1) := by decide +kernel
theorem d_Mod_copy_144 : decode b_Mod_copy 144 = .ok (.iastore, 1) := by decide +kernel
theorem d_Mod_copy_145 : decode b_Mod_copy 145 = .ok (.iinc 3 1, 3) := by decide +kernel
theorem d_Mod_copy_148 : decode b_Mod_copy 148 = .ok (.goto (-58), 3) := by decide +kernel
theorem d_Mod_copy_151 : decode b_Mod_copy 151 = .ok (.return_, 1) := by decide +kernel
theorem d_Mod_comes_0 : decode b_Mod_comes 0 = .ok (.aload_n 0, 1) := by decide +kernel
theorem d_Mod_comes_1 : decode b_Mod_comes 1 = .ok (.iload_n 2, 1) := by decide +kernel
theorem d_Mod_comes_2 : decode b_Mod_comes 2 = .ok (.invokevirtual 80, 3) := by decide +kernel
theorem d_Mod_comes_5 : decode b_Mod_comes 5 = .ok (.istore 6, 2) := by decide +kernel
theorem d_Mod_comes_7 : decode b_Mod_comes 7 = .ok (.iload 6, 2) := by decide +kernel
theorem d_Mod_comes_9 : decode b_Mod_comes 9 = .ok (.ifCond .lt 20, 3) := by decide +kernel
theorem d_Mod_comes_12 : decode b_Mod_comes 12 = .ok (.iload 4, 2) := by decide +kernel
theorem d_Mod_comes_14 : decode b_Mod_comes 14 = .ok (.bipush 8, 2) := by decide +kernel
theorem d_Mod_comes_16 : decode b_Mod_comes 16 = .ok (.if_icmp .ge 13, 3) := by decide +kernel
theorem d_Mod_comes_19 : decode b_Mod_comes 19 = .ok (.aload_n 0, 1) := by decide +kernel
theorem d_Mod_comes_20 : decode b_Mod_comes 20 = .ok (.iload 6, 2) := by decide +kernel
theorem d_Mod_comes_22 : decode b_Mod_comes 22 = .ok (.iload_n 1, 1) := by decide +kernel
theorem d_Mod_comes_23 : decode b_Mod_comes 23 = .ok (.invokevirtual 86, 3) := by decide +kernel
theorem d_Mod_comes_26 : decode b_Mod_comes 26 = .ok (.goto 8, 3) := by decide +kernel
theorem d_Mod_comes_29 : decode b_Mod_comes 29 = .ok (.aload_n 0, 1) := by decide +kernel
theorem d_Mod_comes_30 : decode b_Mod_comes 30 = .ok (.iload_n 1, 1) := by decide +kernel
theorem d_Mod_comes_31 : decode b_Mod_comes 31 = .ok (.invokevirtual 116, 3) := by decide +kernel
theorem d_Mod_comes_34 : decode b_Mod_comes 34 = .ok (.aload_n 0, 1) := by decide +kernel
theorem d_Mod_comes_35 : decode b_Mod_comes 35 = .ok (.getfield 7, 3) := by decide +kernel
theorem d_Mod_comes_38 : decode b_Mod_comes 38 = .ok (.iload_n 1, 1) := by decide +kernel
theorem d_Mod_comes_39 : decode b_Mod_comes 39 = .ok (.iconst 1, 1) := by decide +kernel
theorem d_Mod_comes_40 : decode b_Mod_comes 40 = .ok (.bastore, 1) := by decide +kernel
theorem d_Mod_comes_41 : decode b_Mod_comes 41 = .ok (.aload_n 0, 1) := by decide +kernel
theorem d_Mod_comes_42 : decode b_Mod_comes 42 = .ok (.getfield 13, 3) := by decide +kernel
theorem d_Mod_comes_45 : decode b_Mod_comes 45 = .ok (.iload_n 1, 1) := by decide +kernel
theorem d_Mod_comes_46 : decode b_Mod_comes 46 = .ok (.iload_n 2, 1) := by decide +kernel
theorem d_Mod_comes_47 : decode b_Mod_comes 47 = .ok (.iastore, 1) := by decide +kernel
theorem d_Mod_comes_48 : decode b_Mod_comes 48 = .ok (.aload_n 0, 1) := by decide +kernel
theorem d_Mod_comes_49 : decode b_Mod_comes 49 = .ok (.getfield 17, 3) := by decide +kernel
theorem d_Mod_comes_52 : decode b_Mod_comes 52 = .ok (.iload_n 1, 1) := by decide +kernel
theorem d_Mod_comes_53 : decode b_Mod_comes 53 = .ok (.iload_n 3, 1) := by decide +kernel
theorem d_Mod_comes_54 : decode b_Mod_comes 54 = .ok (.iastore, 1) := by decide +kernel
theorem d_Mod_comes_55 : decode b_Mod_comes 55 = .ok (.aload_n 0, 1) := by decide +kernel
theorem d_Mod_comes_56 : decode b_Mod_comes 56 = .ok (.getfield 20, 3) := by decide +kernel
theorem d_Mod_comes_59 : decode b_Mod_comes 59 = .ok (.iload_n 1, 1) := by decide +kernel
theorem d_Mod_comes_60 : decode b_Mod_comes 60 = .ok (.iload 5, 2) := by decide +kernel
theorem d_Mod_comes_62 : decode b_Mod_comes 62 = .ok (.iastore, 1) := by decide +kernel
theorem d_Mod_comes_63 : decode b_Mod_comes 63 = .ok (.return_, 1) := by decide +kernel
theorem d_Mod_blank_0 : decode b_Mod_blank 0 = .ok (.iconst 0, 1) := by decide +kernel
theorem d_Mod_blank_1 : decode b_Mod_blank 1 = .ok (.istore_n 2, 1) := by decide +kernel
theorem d_Mod_blank_2 : decode b_Mod_blank 2 = .ok (.iload_n 2, 1) := by decide +kernel
theorem d_Mod_blank_3 : decode b_Mod_blank 3 = .ok (.iconst 4, 1) := by decide +kernel
theorem d_Mod_blank_4 : decode b_Mod_blank 4 = .ok (.if_icmp .ge 20, 3) := by decide +kernel
theorem d_Mod_blank_7 : decode b_Mod_blank 7 = .ok (.aload_n 0, 1) := by decide +kernel
theorem d_Mod_blank_8 : decode b_Mod_blank 8 = .ok (.getfield 26, 3) := by decide +kernel
theorem d_Mod_blank_11 : decode b_Mod_blank 11 = .ok (.iconst 4, 1) := by decide +kernel
theorem d_Mod_blank_12 : decode b_Mod_blank 12 = .ok (.iload_n 1, 1) := by decide +kernel
theorem d_Mod_blank_13 : decode b_Mod_blank 13 = .ok (.imul, 1) := by decide +kernel
theorem d_Mod_blank_14 : decode b_Mod_blank 14 = .ok (.iload_n 2, 1) := by decide +kernel
theorem d_Mod_blank_15 : decode b_Mod_blank 15 = .ok (.iadd, 1) := by decide +kernel
theorem d_Mod_blank_16 : decode b_Mod_blank 16 = .ok (.iconst (-1), 1) := by decide +kernel
theorem d_Mod_blank_17 : decode b_Mod_blank 17 = .ok (.iastore, 1) := by decide +kernel
theorem d_Mod_blank_18 : decode b_Mod_blank 18 = .ok (.iinc 2 1, 3) := by decide +kernel
theorem d_Mod_blank_21 : decode b_Mod_blank 21 = .ok (.goto (-19), 3) := by decide +kernel
theorem d_Mod_blank_24 : decode b_Mod_blank 24 = .ok (.iconst 0, 1) := by decide +kernel
theorem d_Mod_blank_25 : decode b_Mod_blank 25 = .ok (.istore_n 2, 1) := by decide +kernel
theorem d_Mod_blank_26 : decode b_Mod_blank 26 = .ok (.iload_n 2, 1) := by decide +kernel
theorem d_Mod_blank_27 : decode b_Mod_blank 27 = .ok (.sipush 160, 3) := by decide +kernel
theorem d_Mod_blank_30 : decode b_Mod_blank 30 = .ok (.if_icmp .ge 36, 3) := by decide +kernel
theorem d_Mod_blank_33 : decode b_Mod_blank 33 = .ok (.aload_n 0, 1) := by decide +kernel
theorem d_Mod_blank_34 : decode b_Mod_blank 34 = .ok (.getfield 29, 3) := by decide +kernel
theorem d_Mod_blank_37 : decode b_Mod_blank 37 = .ok (.sipush 160, 3) := by decide +kernel
theorem d_Mod_blank_40 : decode b_Mod_blank 40 = .ok (.iload_n 1, 1) := by decide +kernel
theorem d_Mod_blank_41 : decode b_Mod_blank 41 = .ok (.imul, 1) := by decide +kernel
theorem d_Mod_blank_42 : decode b_Mod_blank 42 = .ok (.iload_n 2, 1) := by decide +kernel
theorem d_Mod_blank_43 : decode b_Mod_blank 43 = .ok (.iadd, 1) := by decide +kernel
theorem d_Mod_blank_44 : decode b_Mod_blank 44 = .ok (.bipush 32, 2) := by decide +kernel
theorem d_Mod_blank_46 : decode b_Mod_blank 46 = .ok (.iastore, 1) := by decide +kernel
theorem d_Mod_blank_47 : decode b_Mod_blank 47 = .ok (.aload_n 0, 1) := by decide +kernel
theorem d_Mod_blank_48 : decode b_Mod_blank 48 = .ok (.getfield 32, 3) := by decide +kernel
theorem d_Mod_blank_51 : decode b_Mod_blank 51 = .ok (.sipush 160, 3) := by decide +kernel
theorem d_Mod_blank_54 : decode b_Mod_blank 54 = .ok (.iload_n 1, 1) := by decide +kernel
theorem d_Mod_blank_55 : decode b_Mod_blank 55 = .ok (.imul, 1) := by decide +kernel
theorem d_Mod_blank_56 : decode b_Mod_blank 56 = .ok (.iload_n 2, 1) := by decide +kernel
theorem d_Mod_blank_57 : decode b_Mod_blank 57 = .ok (.iadd, 1) := by decide +kernel
theorem d_Mod_blank_58 : decode b_Mod_blank 58 = .ok (.iconst 0, 1) := by decide +kernel
theorem d_Mod_blank_59 : decode b_Mod_blank 59 = .ok (.iastore, 1) := by decide +kernel
theorem d_Mod_blank_60 : decode b_Mod_blank 60 = .ok (.iinc 2 1, 3) := by decide +kernel
theorem d_Mod_blank_63 : decode b_Mod_blank 63 = .ok (.goto (-37), 3) := by decide +kernel
theorem d_Mod_blank_66 : decode b_Mod_blank 66 = .ok (.return_, 1) := by decide +kernel
theorem d_Mod_letter_0 : decode b_Mod_letter 0 = .ok (.iload_n 1, 1) := by decide +kernel
theorem d_Mod_letter_1 : decode b_Mod_letter 1 = .ok (.invokestatic 73, 3) := by decide +kernel
theorem d_Mod_letter_4 : decode b_Mod_letter 4 = .ok (.ifCond .ne 15, 3) := by decide +kernel
theorem d_Mod_letter_7 : decode b_Mod_letter 7 = .ok (.aload_n 0, 1) := by decide +kernel
theorem d_Mod_letter_8 : decode b_Mod_letter 8 = .ok (.getfield 41, 3) := by decide +kernel
theorem d_Mod_letter_11 : decode b_Mod_letter 11 = .ok (.iconst 4, 1) := by decide +kernel
theorem d_Mod_letter_12 : decode b_Mod_letter 12 = .ok (.dup2, 1) := by decide +kernel
theorem d_Mod_letter_13 : decode b_Mod_letter 13 = .ok (.iaload, 1) := by decide +kernel
theorem d_Mod_letter_14 : decode b_Mod_letter 14 = .ok (.iconst 1, 1) := by decide +kernel
theorem d_Mod_letter_15 : decode b_Mod_letter 15 = .ok (.iadd, 1) := by decide +kernel
theorem d_Mod_letter_16 : decode b_Mod_letter 16 = .ok (.iastore, 1) := by decide +kernel
theorem d_Mod_letter_17 : decode b_Mod_letter 17 = .ok (.iconst (-1), 1) := by decide +kernel
theorem d_Mod_letter_18 : decode b_Mod_letter 18 = .ok (.ireturn, 1) := by decide +kernel
theorem d_Mod_letter_19 : decode b_Mod_letter 19 = .ok (.iload_n 1, 1) := by decide +kernel
theorem d_Mod_letter_20 : decode b_Mod_letter 20 = .ok (.bipush 127, 2) := by decide +kernel
theorem d_Mod_letter_22 : decode b_Mod_letter 22 = .ok (.iand, 1) := by decide +kernel
theorem d_Mod_letter_23 : decode b_Mod_letter 23 = .ok (.ireturn, 1) := by decide +kernel
theorem d_Mod_takeOverlays_0 : decode b_Mod_takeOverlays 0 = .ok (.iconst 0, 1) := by decide +kernel
theorem d_Mod_takeOverlays_1 : decode b_Mod_takeOverlays 1 = .ok (.istore_n 2, 1) := by decide +kernel
theorem d_Mod_takeOverlays_2 : decode b_Mod_takeOverlays 2 = .ok (.iconst 0, 1) := by decide +kernel
theorem d_Mod_takeOverlays_3 : decode b_Mod_takeOverlays 3 = .ok (.istore_n 3, 1) := by decide +kernel
theorem d_Mod_takeOverlays_4 : decode b_Mod_takeOverlays 4 = .ok (.iload_n 3, 1) := by decide +kernel
theorem d_Mod_takeOverlays_5 : decode b_Mod_takeOverlays 5 = .ok (.bipush 6, 2) := by decide +kernel
theorem d_Mod_takeOverlays_7 : decode b_Mod_takeOverlays 7 = .ok (.if_icmp .ge 201, 3) := by decide +kernel
theorem d_Mod_takeOverlays_10 : decode b_Mod_takeOverlays 10 = .ok (.iconst 2, 1) := by decide +kernel
theorem d_Mod_takeOverlays_11 : decode b_Mod_takeOverlays 11 = .ok (.iconst 3, 1) := by decide +kernel
theorem d_Mod_takeOverlays_12 : decode b_Mod_takeOverlays 12 = .ok (.iload_n 3, 1) := by decide +kernel
theorem d_Mod_takeOverlays_13 : decode b_Mod_takeOverlays 13 = .ok (.imul, 1) := by decide +kernel
theorem d_Mod_takeOverlays_14 : decode b_Mod_takeOverlays 14 = .ok (.iadd, 1) := by decide +kernel
theorem d_Mod_takeOverlays_15 : decode b_Mod_takeOverlays 15 = .ok (.istore 4, 2) := by decide +kernel
theorem d_Mod_takeOverlays_17 : decode b_Mod_takeOverlays 17 = .ok (.aload_n 0, 1) := by decide +kernel
theorem d_Mod_takeOverlays_18 : decode b_Mod_takeOverlays 18 = .ok (.aload_n 0, 1) := by decide +kernel
theorem d_Mod_takeOverlays_19 : decode b_Mod_takeOverlays 19 = .ok (.getfield 38, 3) := by decide +kernel
theorem d_Mod_takeOverlays_22 : decode b_Mod_takeOverlays 22 = .ok (.iload 4, 2) := by decide +kernel
theorem d_Mod_takeOverlays_24 : decode b_Mod_takeOverlays 24 = .ok (.iaload, 1) := by decide +kernel
theorem d_Mod_takeOverlays_25 : decode b_Mod_takeOverlays 25 = .ok (.sipush 256, 3) := by decide +kernel
theorem d_Mod_takeOverlays_28 : decode b_Mod_takeOverlays 28 = .ok (.aload_n 0, 1) := by decide +kernel
theorem d_Mod_takeOverlays_29 : decode b_Mod_takeOverlays 29 = .ok (.getfield 38, 3) := by decide +kernel
theorem d_Mod_takeOverlays_32 : decode b_Mod_takeOverlays 32 = .ok (.iload 4, 2) := by decide +kernel
theorem d_Mod_takeOverlays_34 : decode b_Mod_takeOverlays 34 = .ok (.iconst 1, 1) := by decide +kernel
theorem d_Mod_takeOverlays_35 : decode b_Mod_takeOverlays 35 = .ok (.iadd, 1) := by decide +kernel
theorem d_Mod_takeOverlays_36 : decode b_Mod_takeOverlays 36 = .ok (.iaload, 1) := by decide +kernel
theorem d_Mod_takeOverlays_37 : decode b_Mod_takeOverlays 37 = .ok (.imul, 1) := by decide +kernel
theorem d_Mod_takeOverlays_38 : decode b_Mod_takeOverlays 38 = .ok (.iadd, 1) := by decide +kernel
theorem d_Mod_takeOverlays_39 : decode b_Mod_takeOverlays 39 = .ok (.ldc 119, 2) := by decide +kernel
theorem d_Mod_takeOverlays_41 : decode b_Mod_takeOverlays 41 = .ok (.aload_n 0, 1) := by decide +kernel
theorem d_Mod_takeOverlays_42 : decode b_Mod_takeOverlays 42 = .ok (.getfield 38, 3) := by decide +kernel
theorem d_Mod_takeOverlays_45 : decode b_Mod_takeOverlays 45 = .ok (.iload 4, 2) := by decide +kernel
theorem d_Mod_takeOverlays_47 : decode b_Mod_takeOverlays 47 = .ok (.iconst 2, 1) := by decide +kernel
theorem d_Mod_takeOverlays_48 : decode b_Mod_takeOverlays 48 = .ok (.iadd, 1) := by decide +kernel
theorem d_Mod_takeOverlays_49 : decode b_Mod_takeOverlays 49 = .ok (.iaload, 1) := by decide +kernel
theorem d_Mod_takeOverlays_50 : decode b_Mod_takeOverlays 50 = .ok (.imul, 1) := by decide +kernel
theorem d_Mod_takeOverlays_51 : decode b_Mod_takeOverlays 51 = .ok (.iadd, 1) := by decide +kernel
theorem d_Mod_takeOverlays_52 : decode b_Mod_takeOverlays 52 = .ok (.invokevirtual 120, 3) := by decide +kernel
theorem d_Mod_takeOverlays_55 : decode b_Mod_takeOverlays 55 = .ok (.istore 5, 2) := by decide +kernel
theorem d_Mod_takeOverlays_57 : decode b_Mod_takeOverlays 57 = .ok (.iload 5, 2) := by decide +kernel
theorem d_Mod_takeOverlays_59 : decode b_Mod_takeOverlays 59 = .ok (.ifCond .ge 8, 3) := by decide +kernel
theorem d_Mod_takeOverlays_62 : decode b_Mod_takeOverlays 62 = .ok (.bipush 63, 2) := by decide +kernel
theorem d_Mod_takeOverlays_64 : decode b_Mod_takeOverlays 64 = .ok (.goto 11, 3) := by decide +kernel
theorem d_Mod_takeOverlays_67 : decode b_Mod_takeOverlays 67 = .ok (.iload 5, 2) := by decide +kernel
theorem d_Mod_takeOverlays_69 : decode b_Mod_takeOverlays 69 = .ok (.iconst 0, 1) := by decide +kernel
theorem d_Mod_takeOverlays_70 : decode b_Mod_takeOverlays 70 = .ok (.bipush 6, 2) := by decide +kernel
theorem d_Mod_takeOverlays_72 : decode b_Mod_takeOverlays 72 = .ok (.invokestatic 123, 3) := by decide +kernel
theorem d_Mod_takeOverlays_75 : decode b_Mod_takeOverlays 75 = .ok (.istore 6, 2) := by decide +kernel
theorem d_Mod_takeOverlays_77 : decode b_Mod_takeOverlays 77 = .ok (.iload 5, 2) := by decide +kernel
theorem d_Mod_takeOverlays_79 : decode b_Mod_takeOverlays 79 = .ok (.ifCond .ge 7, 3) := by decide +kernel
theorem d_Mod_takeOverlays_82 : decode b_Mod_takeOverlays 82 = .ok (.iconst 0, 1) := by decide +kernel
theorem d_Mod_takeOverlays_83 : decode b_Mod_takeOverlays 83 = .ok (.goto 11, 3) := by decide +kernel
theorem d_Mod_takeOverlays_86 : decode b_Mod_takeOverlays 86 = .ok (.iload 5, 2) := by decide +kernel
theorem d_Mod_takeOverlays_88 : decode b_Mod_takeOverlays 88 = .ok (.bipush 6, 2) := by decide +kernel
theorem d_Mod_takeOverlays_90 : decode b_Mod_takeOverlays 90 = .ok (.iconst 5, 1) := by decide +kernel
theorem d_Mod_takeOverlays_91 : decode b_Mod_takeOverlays 91 = .ok (.invokestatic 123, 3) := by decide +kernel
theorem d_Mod_takeOverlays_94 : decode b_Mod_takeOverlays 94 = .ok (.istore 7, 2) := by decide +kernel
theorem d_Mod_takeOverlays_96 : decode b_Mod_takeOverlays 96 = .ok (.iload 5, 2) := by decide +kernel
theorem d_Mod_takeOverlays_98 : decode b_Mod_takeOverlays 98 = .ok (.ifCond .ge 7, 3) := by decide +kernel
theorem d_Mod_takeOverlays_101 : decode b_Mod_takeOverlays 101 = .ok (.iconst 0, 1) := by decide +kernel
theorem d_Mod_takeOverlays_102 : decode b_Mod_takeOverlays 102 = .ok (.goto 12, 3) := by decide +kernel
theorem d_Mod_takeOverlays_105 : decode b_Mod_takeOverlays 105 = .ok (.iload 5, 2) := by decide +kernel
theorem d_Mod_takeOverlays_107 : decode b_Mod_takeOverlays 107 = .ok (.bipush 11, 2) := by decide +kernel
theorem d_Mod_takeOverlays_109 : decode b_Mod_takeOverlays 109 = .ok (.bipush 7, 2) := by decide +kernel
theorem d_Mod_takeOverlays_111 : decode b_Mod_takeOverlays 111 = .ok (.invokestatic 123, 3) := by decide +kernel
theorem d_Mod_takeOverlays_114 : decode b_Mod_takeOverlays 114 = .ok (.istore 8, 2) := by decide +kernel
theorem d_Mod_takeOverlays_116 : decode b_Mod_takeOverlays 116 = .ok (.iload 6, 2) := by decide +kernel
theorem d_Mod_takeOverlays_118 : decode b_Mod_takeOverlays 118 = .ok (.bipush 40, 2) := by decide +kernel
theorem d_Mod_takeOverlays_120 : decode b_Mod_takeOverlays 120 = .ok (.if_icmp .lt 22, 3) := by decide +kernel
theorem d_Mod_takeOverlays_123 : decode b_Mod_takeOverlays 123 = .ok (.iload 6, 2) := by decide +kernel
theorem d_Mod_takeOverlays_125 : decode b_Mod_takeOverlays 125 = .ok (.bipush 48, 2) := by decide +kernel
theorem d_Mod_takeOverlays_127 : decode b_Mod_takeOverlays 127 = .ok (.if_icmp .ge 15, 3) := by decide +kernel
theorem d_Mod_takeOverlays_130 : decode b_Mod_takeOverlays 130 = .ok (.iload 7, 2) := by decide +kernel
theorem d_Mod_takeOverlays_132 : decode b_Mod_takeOverlays 132 = .ok (.iconst 4, 1) := by decide +kernel
theorem d_Mod_takeOverlays_133 : decode b_Mod_takeOverlays 133 = .ok (.if_icmp .ne 9, 3) := by decide +kernel
theorem d_Mod_takeOverlays_136 : decode b_Mod_takeOverlays 136 = .ok (.iload 6, 2) := by decide +kernel
theorem d_Mod_takeOverlays_138 : decode b_Mod_takeOverlays 138 = .ok (.bipush 40, 2) := by decide +kernel
theorem d_Mod_takeOverlays_140 : decode b_Mod_takeOverlays 140 = .ok (.isub, 1) := by decide +kernel
theorem d_Mod_takeOverlays_141 : decode b_Mod_takeOverlays 141 = .ok (.istore_n 2, 1) := by decide +kernel
theorem d_Mod_takeOverlays_142 : decode b_Mod_takeOverlays 142 = .ok (.iload 6, 2) := by decide +kernel
theorem d_Mod_takeOverlays_144 : decode b_Mod_takeOverlays 144 = .ok (.bipush 20, 2) := by decide +kernel
theorem d_Mod_takeOverlays_146 : decode b_Mod_takeOverlays 146 = .ok (.if_icmp .ge 56, 3) := by decide +kernel
theorem d_Mod_takeOverlays_149 : decode b_Mod_takeOverlays 149 = .ok (.iload 7, 2) := by decide +kernel
theorem d_Mod_takeOverlays_151 : decode b_Mod_takeOverlays 151 = .ok (.bipush 15, 2) := by decide +kernel
theorem d_Mod_takeOverlays_153 : decode b_Mod_takeOverlays 153 = .ok (.if_icmp .lt 49, 3) := by decide +kernel
theorem d_Mod_takeOverlays_156 : decode b_Mod_takeOverlays 156 = .ok (.aload_n 0, 1) := by decide +kernel
theorem d_Mod_takeOverlays_157 : decode b_Mod_takeOverlays 157 = .ok (.getfield 32, 3) := by decide +kernel
theorem d_Mod_takeOverlays_160 : decode b_Mod_takeOverlays 160 = .ok (.sipush 160, 3) := by decide +kernel
theorem d_Mod_takeOverlays_163 : decode b_Mod_takeOverlays 163 = .ok (.iload_n 1, 1) := by decide +kernel
theorem d_Mod_takeOverlays_164 : decode b_Mod_takeOverlays 164 = .ok (.imul, 1) := by decide +kernel
theorem d_Mod_takeOverlays_165 : decode b_Mod_takeOverlays 165 = .ok (.bipush 20, 2) := by decide +kernel
theorem d_Mod_takeOverlays_167 : decode b_Mod_takeOverlays 167 = .ok (.iload_n 2, 1) := by decide +kernel
theorem d_Mod_takeOverlays_168 : decode b_Mod_takeOverlays 168 = .ok (.imul, 1) := by decide +kernel
theorem d_Mod_takeOverlays_169 : decode b_Mod_takeOverlays 169 = .ok (.iadd, 1) := by decide +kernel
theorem d_Mod_takeOverlays_170 : decode b_Mod_takeOverlays 170 = .ok (.iload 6, 2) := by decide +kernel
theorem d_Mod_takeOverlays_172 : decode b_Mod_takeOverlays 172 = .ok (.iadd, 1) := by decide +kernel
theorem d_Mod_takeOverlays_173 : decode b_Mod_takeOverlays 173 = .ok (.iload 7, 2) := by decide +kernel
theorem d_Mod_takeOverlays_175 : decode b_Mod_takeOverlays 175 = .ok (.bipush 15, 2) := by decide +kernel
theorem d_Mod_takeOverlays_177 : decode b_Mod_takeOverlays 177 = .ok (.if_icmp .ne 12, 3) := by decide +kernel
theorem d_Mod_takeOverlays_180 : decode b_Mod_takeOverlays 180 = .ok (.iload 8, 2) := by decide +kernel
theorem d_Mod_takeOverlays_182 : decode b_Mod_takeOverlays 182 = .ok (.sipush 128, 3) := by decide +kernel
theorem d_Mod_takeOverlays_185 : decode b_Mod_takeOverlays 185 = .ok (.iadd, 1) := by decide +kernel
theorem d_Mod_takeOverlays_186 : decode b_Mod_takeOverlays 186 = .ok (.goto 15, 3) := by decide +kernel
theorem d_Mod_takeOverlays_189 : decode b_Mod_takeOverlays 189 = .ok (.iload 8, 2) := by decide +kernel
theorem d_Mod_takeOverlays_191 : decode b_Mod_takeOverlays 191 = .ok (.sipush 256, 3) := by decide +kernel
theorem d_Mod_takeOverlays_194 : decode b_Mod_takeOverlays 194 = .ok (.iload 7, 2) := by decide +kernel
theorem d_Mod_takeOverlays_196 : decode b_Mod_takeOverlays 196 = .ok (.bipush 15, 2) := by decide +kernel
theorem d_Mod_takeOverlays_198 : decode b_Mod_takeOverlays 198 = .ok (.isub, 1) := by decide +kernel
theorem d_Mod_takeOverlays_199 : decode b_Mod_takeOverlays 199 = .ok (.imul, 1) := by decide +kernel
theorem d_Mod_takeOverlays_200 : decode b_Mod_takeOverlays 200 = .ok (.iadd, 1) := by decide +kernel
theorem d_Mod_takeOverlays_201 : decode b_Mod_takeOverlays 201 = .ok (.iastore, 1) := by decide +kernel
theorem d_Mod_takeOverlays_202 : decode b_Mod_takeOverlays 202 = .ok (.iinc 3 1, 3) := by decide +kernel
theorem d_Mod_takeOverlays_205 : decode b_Mod_takeOverlays 205 = .ok (.goto (-201), 3) := by decide +kernel
theorem d_Mod_takeOverlays_208 : decode b_Mod_takeOverlays 208 = .ok (.return_, 1) := by decide +kernel
theorem d_Mod_mended_0 : decode b_Mod_mended 0 = .ok (.iconst 0, 1) := by decide +kernel
theorem d_Mod_mended_1 : decode b_Mod_mended 1 = .ok (.istore_n 2, 1) := by decide +kernel
theorem d_Mod_mended_2 : decode b_Mod_mended 2 = .ok (.iconst 0, 1) := by decide +kernel
theorem d_Mod_mended_3 : decode b_Mod_mended 3 = .ok (.istore_n 3, 1) := by decide +kernel
theorem d_Mod_mended_4 : decode b_Mod_mended 4 = .ok (.iload_n 3, 1) := by decide +kernel
theorem d_Mod_mended_5 : decode b_Mod_mended 5 = .ok (.iconst 5, 1) := by decide +kernel
theorem d_Mod_mended_6 : decode b_Mod_mended 6 = .ok (.if_icmp .ge 73, 3) := by decide +kernel
theorem d_Mod_mended_9 : decode b_Mod_mended 9 = .ok (.iconst 0, 1) := by decide +kernel
theorem d_Mod_mended_10 : decode b_Mod_mended 10 = .ok (.istore 4, 2) := by decide +kernel
theorem d_Mod_mended_12 : decode b_Mod_mended 12 = .ok (.iconst 1, 1) := by decide +kernel
theorem d_Mod_mended_13 : decode b_Mod_mended 13 = .ok (.istore 5, 2) := by decide +kernel
theorem d_Mod_mended_15 : decode b_Mod_mended 15 = .ok (.iload 5, 2) := by decide +kernel
theorem d_Mod_mended_17 : decode b_Mod_mended 17 = .ok (.bipush 24, 2) := by decide +kernel
theorem d_Mod_mended_19 : decode b_Mod_mended 19 = .ok (.if_icmp .ge 37, 3) := by decide +kernel
theorem d_Mod_mended_22 : decode b_Mod_mended 22 = .ok (.iload 5, 2) := by decide +kernel
theorem d_Mod_mended_24 : decode b_Mod_mended 24 = .ok (.iload_n 3, 1) := by decide +kernel
theorem d_Mod_mended_25 : decode b_Mod_mended 25 = .ok (.ishr, 1) := by decide +kernel
theorem d_Mod_mended_26 : decode b_Mod_mended 26 = .ok (.iconst 1, 1) := by decide +kernel
theorem d_Mod_mended_27 : decode b_Mod_mended 27 = .ok (.iand, 1) := by decide +kernel
theorem d_Mod_mended_28 : decode b_Mod_mended 28 = .ok (.iconst 1, 1) := by decide +kernel
theorem d_Mod_mended_29 : decode b_Mod_mended 29 = .ok (.if_icmp .ne 17, 3) := by decide +kernel
theorem d_Mod_mended_32 : decode b_Mod_mended 32 = .ok (.iload 4, 2) := by decide +kernel
theorem d_Mod_mended_34 : decode b_Mod_mended 34 = .ok (.iload_n 1, 1) := by decide +kernel
theorem d_Mod_mended_35 : decode b_Mod_mended 35 = .ok (.iload 5, 2) := by decide +kernel
theorem d_Mod_mended_37 : decode b_Mod_mended 37 = .ok (.iconst 1, 1) := by decide +kernel
theorem d_Mod_mended_38 : decode b_Mod_mended 38 = .ok (.isub, 1) := by decide +kernel
theorem d_Mod_mended_39 : decode b_Mod_mended 39 = .ok (.ishr, 1) := by decide +kernel
theorem d_Mod_mended_40 : decode b_Mod_mended 40 = .ok (.iconst 1, 1) := by decide +kernel
theorem d_Mod_mended_41 : decode b_Mod_mended 41 = .ok (.iand, 1) := by decide +kernel
theorem d_Mod_mended_42 : decode b_Mod_mended 42 = .ok (.iadd, 1) := by decide +kernel
theorem d_Mod_mended_43 : decode b_Mod_mended 43 = .ok (.goto 5, 3) := by decide +kernel
theorem d_Mod_mended_46 : decode b_Mod_mended 46 = .ok (.iload 4, 2) := by decide +kernel
theorem d_Mod_mended_48 : decode b_Mod_mended 48 = .ok (.istore 4, 2) := by decide +kernel
theorem d_Mod_mended_50 : decode b_Mod_mended 50 = .ok (.iinc 5 1, 3) := by decide +kernel
theorem d_Mod_mended_53 : decode b_Mod_mended 53 = .ok (.goto (-38), 3) := by decide +kernel
theorem d_Mod_mended_56 : decode b_Mod_mended 56 = .ok (.iload 4, 2) := by decide +kernel
theorem d_Mod_mended_58 : decode b_Mod_mended 58 = .ok (.iconst 2, 1) := by decide +kernel
theorem d_Mod_mended_59 : decode b_Mod_mended 59 = .ok (.irem, 1) := by decide +kernel
theorem d_Mod_mended_60 : decode b_Mod_mended 60 = .ok (.ifCond .ne 11, 3) := by decide +kernel
theorem d_Mod_mended_63 : decode b_Mod_mended 63 = .ok (.iload_n 2, 1) := by decide +kernel
theorem d_Mod_mended_64 : decode b_Mod_mended 64 = .ok (.iconst 1, 1) := by decide +kernel
theorem d_Mod_mended_65 : decode b_Mod_mended 65 = .ok (.iload_n 3, 1) := by decide +kernel
theorem d_Mod_mended_66 : decode b_Mod_mended 66 = .ok (.ishl, 1) := by decide +kernel
theorem d_Mod_mended_67 : decode b_Mod_mended 67 = .ok (.iadd, 1) := by decide +kernel
theorem d_Mod_mended_68 : decode b_Mod_mended 68 = .ok (.goto 4, 3) := by decide +kernel
theorem d_Mod_mended_71 : decode b_Mod_mended 71 = .ok (.iload_n 2, 1) := by decide +kernel
theorem d_Mod_mended_72 : decode b_Mod_mended 72 = .ok (.istore_n 2, 1) := by decide +kernel
theorem d_Mod_mended_73 : decode b_Mod_mended 73 = .ok (.iinc 3 1, 3) := by decide +kernel
theorem d_Mod_mended_76 : decode b_Mod_mended 76 = .ok (.goto (-72), 3) := by decide +kernel
theorem d_Mod_mended_79 : decode b_Mod_mended 79 = .ok (.iload_n 1, 1) := by decide +kernel
theorem d_Mod_mended_80 : decode b_Mod_mended 80 = .ok (.invokestatic 73, 3) := by decide +kernel
theorem d_Mod_mended_83 : decode b_Mod_mended 83 = .ok (.iconst 1, 1) := by decide +kernel
theorem d_Mod_mended_84 : decode b_Mod_mended 84 = .ok (.if_icmp .ne 7, 3) := by decide +kernel
theorem d_Mod_mended_87 : decode b_Mod_mended 87 = .ok (.iconst 1, 1) := by decide +kernel
theorem d_Mod_mended_88 : decode b_Mod_mended 88 = .ok (.goto 4, 3) := by decide +kernel
theorem d_Mod_mended_91 : decode b_Mod_mended 91 = .ok (.iconst 0, 1) := by decide +kernel
theorem d_Mod_mended_92 : decode b_Mod_mended 92 = .ok (.istore_n 3, 1) := by decide +kernel
theorem d_Mod_mended_93 : decode b_Mod_mended 93 = .ok (.iload_n 3, 1) := by decide +kernel
theorem d_Mod_mended_94 : decode b_Mod_mended 94 = .ok (.ifCond .eq 9, 3) := by decide +kernel
theorem d_Mod_mended_97 : decode b_Mod_mended 97 = .ok (.iload_n 2, 1) := by decide +kernel
theorem d_Mod_mended_98 : decode b_Mod_mended 98 = .ok (.ifCond .ne 5, 3) := by decide +kernel
theorem d_Mod_mended_101 : decode b_Mod_mended 101 = .ok (.iload_n 1, 1) := by decide +kernel
theorem d_Mod_mended_102 : decode b_Mod_mended 102 = .ok (.ireturn, 1) := by decide +kernel
theorem d_Mod_mended_103 : decode b_Mod_mended 103 = .ok (.iload_n 3, 1) := by decide +kernel
theorem d_Mod_mended_104 : decode b_Mod_mended 104 = .ok (.ifCond .ne 9, 3) := by decide +kernel
theorem d_Mod_mended_107 : decode b_Mod_mended 107 = .ok (.iload_n 2, 1) := by decide +kernel
theorem d_Mod_mended_108 : decode b_Mod_mended 108 = .ok (.bipush 24, 2) := by decide +kernel
theorem d_Mod_mended_110 : decode b_Mod_mended 110 = .ok (.if_icmp .lt 15, 3) := by decide +kernel
theorem d_Mod_mended_113 : decode b_Mod_mended 113 = .ok (.aload_n 0, 1) := by decide +kernel
theorem d_Mod_mended_114 : decode b_Mod_mended 114 = .ok (.getfield 41, 3) := by decide +kernel
theorem d_Mod_mended_117 : decode b_Mod_mended 117 = .ok (.iconst 3, 1) := by decide +kernel
theorem d_Mod_mended_118 : decode b_Mod_mended 118 = .ok (.dup2, 1) := by decide +kernel
theorem d_Mod_mended_119 : decode b_Mod_mended 119 = .ok (.iaload, 1) := by decide +kernel
theorem d_Mod_mended_120 : decode b_Mod_mended 120 = .ok (.iconst 1, 1) := by decide +kernel
theorem d_Mod_mended_121 : decode b_Mod_mended 121 = .ok (.iadd, 1) := by decide +kernel
theorem d_Mod_mended_122 : decode b_Mod_mended 122 = .ok (.iastore, 1) := by decide +kernel
theorem d_Mod_mended_123 : decode b_Mod_mended 123 = .ok (.iconst (-1), 1) := by decide +kernel
theorem d_Mod_mended_124 : decode b_Mod_mended 124 = .ok (.ireturn, 1) := by decide +kernel
theorem d_Mod_mended_125 : decode b_Mod_mended 125 = .ok (.aload_n 0, 1) := by decide +kernel
theorem d_Mod_mended_126 : decode b_Mod_mended 126 = .ok (.getfield 41, 3) := by decide +kernel
theorem d_Mod_mended_129 : decode b_Mod_mended 129 = .ok (.iconst 2, 1) := by decide +kernel
theorem d_Mod_mended_130 : decode b_Mod_mended 130 = .ok (.dup2, 1) := by decide +kernel
theorem d_Mod_mended_131 : decode b_Mod_mended 131 = .ok (.iaload, 1) := by decide +kernel
theorem d_Mod_mended_132 : decode b_Mod_mended 132 = .ok (.iconst 1, 1) := by decide +kernel
theorem d_Mod_mended_133 : decode b_Mod_mended 133 = .ok (.iadd, 1) := by decide +kernel
theorem d_Mod_mended_134 : decode b_Mod_mended 134 = .ok (.iastore, 1) := by decide +kernel
theorem d_Mod_mended_135 : decode b_Mod_mended 135 = .ok (.iload_n 1, 1) := by decide +kernel
theorem d_Mod_mended_136 : decode b_Mod_mended 136 = .ok (.iconst 1, 1) := by decide +kernel
theorem d_Mod_mended_137 : decode b_Mod_mended 137 = .ok (.iload_n 2, 1) := by decide +kernel
theorem d_Mod_mended_138 : decode b_Mod_mended 138 = .ok (.ifCond .ne 8, 3) := by decide +kernel
theorem d_Mod_mended_141 : decode b_Mod_mended 141 = .ok (.bipush 24, 2) := by decide +kernel
theorem d_Mod_mended_143 : decode b_Mod_mended 143 = .ok (.goto 4, 3) := by decide +kernel
theorem d_Mod_mended_146 : decode b_Mod_mended 146 = .ok (.iload_n 2, 1) := by decide +kernel
theorem d_Mod_mended_147 : decode b_Mod_mended 147 = .ok (.iconst 1, 1) := by decide +kernel
theorem d_Mod_mended_148 : decode b_Mod_mended 148 = .ok (.isub, 1) := by decide +kernel
theorem d_Mod_mended_149 : decode b_Mod_mended 149 = .ok (.ishl, 1) := by decide +kernel
theorem d_Mod_mended_150 : decode b_Mod_mended 150 = .ok (.ixor, 1) := by decide +kernel
theorem d_Mod_mended_151 : decode b_Mod_mended 151 = .ok (.ireturn, 1) := by decide +kernel
theorem d_Mod_told_0 : decode b_Mod_told 0 = .ok (.iconst 0, 1) := by decide +kernel
theorem d_Mod_told_1 : decode b_Mod_told 1 = .ok (.istore_n 3, 1) := by decide +kernel
theorem d_Mod_told_2 : decode b_Mod_told 2 = .ok (.iconst 0, 1) := by decide +kernel
theorem d_Mod_told_3 : decode b_Mod_told 3 = .ok (.istore 4, 2) := by decide +kernel
theorem d_Mod_told_5 : decode b_Mod_told 5 = .ok (.iconst 1, 1) := by decide +kernel
theorem d_Mod_told_6 : decode b_Mod_told 6 = .ok (.istore 5, 2) := by decide +kernel
theorem d_Mod_told_8 : decode b_Mod_told 8 = .ok (.iload 5, 2) := by decide +kernel
theorem d_Mod_told_10 : decode b_Mod_told 10 = .ok (.bipush 24, 2) := by decide +kernel
theorem d_Mod_told_12 : decode b_Mod_told 12 = .ok (.if_icmp .ge 77, 3) := by decide +kernel
theorem d_Mod_told_15 : decode b_Mod_told 15 = .ok (.iload 5, 2) := by decide +kernel
theorem d_Mod_told_17 : decode b_Mod_told 17 = .ok (.iload 5, 2) := by decide +kernel
theorem d_Mod_told_19 : decode b_Mod_told 19 = .ok (.iconst 1, 1) := by decide +kernel
theorem d_Mod_told_20 : decode b_Mod_told 20 = .ok (.isub, 1) := by decide +kernel
theorem d_Mod_told_21 : decode b_Mod_told 21 = .ok (.iand, 1) := by decide +kernel
theorem d_Mod_told_22 : decode b_Mod_told 22 = .ok (.ifCond .eq 7, 3) := by decide +kernel
theorem d_Mod_told_25 : decode b_Mod_told 25 = .ok (.iconst 1, 1) := by decide +kernel
theorem d_Mod_told_26 : decode b_Mod_told 26 = .ok (.goto 4, 3) := by decide +kernel
theorem d_Mod_told_29 : decode b_Mod_told 29 = .ok (.iconst 0, 1) := by decide +kernel
theorem d_Mod_told_30 : decode b_Mod_told 30 = .ok (.istore 6, 2) := by decide +kernel
theorem d_Mod_told_32 : decode b_Mod_told 32 = .ok (.iload 6, 2) := by decide +kernel
theorem d_Mod_told_34 : decode b_Mod_told 34 = .ok (.ifCond .eq 33, 3) := by decide +kernel
theorem d_Mod_told_37 : decode b_Mod_told 37 = .ok (.iload 4, 2) := by decide +kernel
theorem d_Mod_told_39 : decode b_Mod_told 39 = .ok (.iload_n 1, 1) := by decide +kernel
theorem d_Mod_told_40 : decode b_Mod_told 40 = .ok (.if_icmp .lt 27, 3) := by decide +kernel
theorem d_Mod_told_43 : decode b_Mod_told 43 = .ok (.iload 4, 2) := by decide +kernel
theorem d_Mod_told_45 : decode b_Mod_told 45 = .ok (.iload_n 1, 1) := by decide +kernel
theorem d_Mod_told_46 : decode b_Mod_told 46 = .ok (.iload_n 2, 1) := by decide +kernel
theorem d_Mod_told_47 : decode b_Mod_told 47 = .ok (.iadd, 1) := by decide +kernel
theorem d_Mod_told_48 : decode b_Mod_told 48 = .ok (.if_icmp .ge 19, 3) := by decide +kernel
theorem d_Mod_told_51 : decode b_Mod_told 51 = .ok (.iload_n 3, 1) := by decide +kernel
theorem d_Mod_told_52 : decode b_Mod_told 52 = .ok (.iload_n 0, 1) := by decide +kernel
theorem d_Mod_told_53 : decode b_Mod_told 53 = .ok (.iload 5, 2) := by decide +kernel
theorem d_Mod_told_55 : decode b_Mod_told 55 = .ok (.iconst 1, 1) := by decide +kernel
theorem d_Mod_told_56 : decode b_Mod_told 56 = .ok (.isub, 1) := by decide +kernel
theorem d_Mod_told_57 : decode b_Mod_told 57 = .ok (.ishr, 1) := by decide +kernel
theorem d_Mod_told_58 : decode b_Mod_told 58 = .ok (.iconst 1, 1) := by decide +kernel
theorem d_Mod_told_59 : decode b_Mod_told 59 = .ok (.iand, 1) := by decide +kernel
theorem d_Mod_told_60 : decode b_Mod_told 60 = .ok (.iload 4, 2) := by decide +kernel
theorem d_Mod_told_62 : decode b_Mod_told 62 = .ok (.iload_n 1, 1) := by decide +kernel
theorem d_Mod_told_63 : decode b_Mod_told 63 = .ok (.isub, 1) := by decide +kernel
theorem d_Mod_told_64 : decode b_Mod_told 64 = .ok (.ishl, 1) := by decide +kernel
theorem d_Mod_told_65 : decode b_Mod_told 65 = .ok (.iadd, 1) := by decide +kernel
theorem d_Mod_told_66 : decode b_Mod_told 66 = .ok (.istore_n 3, 1) := by decide +kernel
theorem d_Mod_told_67 : decode b_Mod_told 67 = .ok (.iload 6, 2) := by decide +kernel
theorem d_Mod_told_69 : decode b_Mod_told 69 = .ok (.ifCond .eq 10, 3) := by decide +kernel
theorem d_Mod_told_72 : decode b_Mod_told 72 = .ok (.iload 4, 2) := by decide +kernel
theorem d_Mod_told_74 : decode b_Mod_told 74 = .ok (.iconst 1, 1) := by decide +kernel
theorem d_Mod_told_75 : decode b_Mod_told 75 = .ok (.iadd, 1) := by decide +kernel
theorem d_Mod_told_76 : decode b_Mod_told 76 = .ok (.goto 5, 3) := by decide +kernel
theorem d_Mod_told_79 : decode b_Mod_told 79 = .ok (.iload 4, 2) := by decide +kernel
theorem d_Mod_told_81 : decode b_Mod_told 81 = .ok (.istore 4, 2) := by decide +kernel
theorem d_Mod_told_83 : decode b_Mod_told 83 = .ok (.iinc 5 1, 3) := by decide +kernel
theorem d_Mod_told_86 : decode b_Mod_told 86 = .ok (.goto (-78), 3) := by decide +kernel
theorem d_Mod_told_89 : decode b_Mod_told 89 = .ok (.iload_n 3, 1) := by decide +kernel
theorem d_Mod_told_90 : decode b_Mod_told 90 = .ok (.ireturn, 1) := by decide +kernel
theorem d_Mod_takeLinks_0 : decode b_Mod_takeLinks 0 = .ok (.iconst 0, 1) := by decide +kernel
theorem d_Mod_takeLinks_1 : decode b_Mod_takeLinks 1 = .ok (.istore_n 2, 1) := by decide +kernel
theorem d_Mod_takeLinks_2 : decode b_Mod_takeLinks 2 = .ok (.iload_n 2, 1) := by decide +kernel
theorem d_Mod_takeLinks_3 : decode b_Mod_takeLinks 3 = .ok (.iconst 4, 1) := by decide +kernel
theorem d_Mod_takeLinks_4 : decode b_Mod_takeLinks 4 = .ok (.if_icmp .ge 99, 3) := by decide +kernel
theorem d_Mod_takeLinks_7 : decode b_Mod_takeLinks 7 = .ok (.aload_n 0, 1) := by decide +kernel
theorem d_Mod_takeLinks_8 : decode b_Mod_takeLinks 8 = .ok (.aload_n 0, 1) := by decide +kernel
theorem d_Mod_takeLinks_9 : decode b_Mod_takeLinks 9 = .ok (.getfield 38, 3) := by decide +kernel
theorem d_Mod_takeLinks_12 : decode b_Mod_takeLinks 12 = .ok (.iconst 2, 1) := by decide +kernel
theorem d_Mod_takeLinks_13 : decode b_Mod_takeLinks 13 = .ok (.iconst 3, 1) := by decide +kernel
theorem d_Mod_takeLinks_14 : decode b_Mod_takeLinks 14 = .ok (.iload_n 2, 1) := by decide +kernel
theorem d_Mod_takeLinks_15 : decode b_Mod_takeLinks 15 = .ok (.imul, 1) := by decide +kernel
theorem d_Mod_takeLinks_16 : decode b_Mod_takeLinks 16 = .ok (.iadd, 1) := by decide +kernel
theorem d_Mod_takeLinks_17 : decode b_Mod_takeLinks 17 = .ok (.iaload, 1) := by decide +kernel
theorem d_Mod_takeLinks_18 : decode b_Mod_takeLinks 18 = .ok (.invokevirtual 90, 3) := by decide +kernel
theorem d_Mod_takeLinks_21 : decode b_Mod_takeLinks 21 = .ok (.istore_n 3, 1) := by decide +kernel
theorem d_Mod_takeLinks_22 : decode b_Mod_takeLinks 22 = .ok (.aload_n 0, 1) := by decide +kernel
theorem d_Mod_takeLinks_23 : decode b_Mod_takeLinks 23 = .ok (.aload_n 0, 1) := by decide +kernel
theorem d_Mod_takeLinks_24 : decode b_Mod_takeLinks 24 = .ok (.getfield 38, 3) := by decide +kernel
theorem d_Mod_takeLinks_27 : decode b_Mod_takeLinks 27 = .ok (.iconst 3, 1) := by decide +kernel
theorem d_Mod_takeLinks_28 : decode b_Mod_takeLinks 28 = .ok (.iconst 3, 1) := by decide +kernel
theorem d_Mod_takeLinks_29 : decode b_Mod_takeLinks 29 = .ok (.iload_n 2, 1) := by decide +kernel
theorem d_Mod_takeLinks_30 : decode b_Mod_takeLinks 30 = .ok (.imul, 1) := by decide +kernel
theorem d_Mod_takeLinks_31 : decode b_Mod_takeLinks 31 = .ok (.iadd, 1) := by decide +kernel
theorem d_Mod_takeLinks_32 : decode b_Mod_takeLinks 32 = .ok (.iaload, 1) := by decide +kernel
theorem d_Mod_takeLinks_33 : decode b_Mod_takeLinks 33 = .ok (.invokevirtual 90, 3) := by decide +kernel
theorem d_Mod_takeLinks_36 : decode b_Mod_takeLinks 36 = .ok (.istore 4, 2) := by decide +kernel
theorem d_Mod_takeLinks_38 : decode b_Mod_takeLinks 38 = .ok (.aload_n 0, 1) := by decide +kernel
theorem d_Mod_takeLinks_39 : decode b_Mod_takeLinks 39 = .ok (.aload_n 0, 1) := by decide +kernel
theorem d_Mod_takeLinks_40 : decode b_Mod_takeLinks 40 = .ok (.getfield 38, 3) := by decide +kernel
theorem d_Mod_takeLinks_43 : decode b_Mod_takeLinks 43 = .ok (.iconst 4, 1) := by decide +kernel
theorem d_Mod_takeLinks_44 : decode b_Mod_takeLinks 44 = .ok (.iconst 3, 1) := by decide +kernel
theorem d_Mod_takeLinks_45 : decode b_Mod_takeLinks 45 = .ok (.iload_n 2, 1) := by decide +kernel
theorem d_Mod_takeLinks_46 : decode b_Mod_takeLinks 46 = .ok (.imul, 1) := by decide +kernel
theorem d_Mod_takeLinks_47 : decode b_Mod_takeLinks 47 = .ok (.iadd, 1) := by decide +kernel
theorem d_Mod_takeLinks_48 : decode b_Mod_takeLinks 48 = .ok (.iaload, 1) := by decide +kernel
theorem d_Mod_takeLinks_49 : decode b_Mod_takeLinks 49 = .ok (.invokevirtual 90, 3) := by decide +kernel
theorem d_Mod_takeLinks_52 : decode b_Mod_takeLinks 52 = .ok (.istore 5, 2) := by decide +kernel
theorem d_Mod_takeLinks_54 : decode b_Mod_takeLinks 54 = .ok (.iload_n 3, 1) := by decide +kernel
theorem d_Mod_takeLinks_55 : decode b_Mod_takeLinks 55 = .ok (.ifCond .lt 42, 3) := by decide +kernel
theorem d_Mod_takeLinks_58 : decode b_Mod_takeLinks 58 = .ok (.iload 4, 2) := by decide +kernel
theorem d_Mod_takeLinks_60 : decode b_Mod_takeLinks 60 = .ok (.ifCond .lt 37, 3) := by decide +kernel
theorem d_Mod_takeLinks_63 : decode b_Mod_takeLinks 63 = .ok (.iload 5, 2) := by decide +kernel
theorem d_Mod_takeLinks_65 : decode b_Mod_takeLinks 65 = .ok (.ifCond .lt 32, 3) := by decide +kernel
theorem d_Mod_takeLinks_68 : decode b_Mod_takeLinks 68 = .ok (.aload_n 0, 1) := by decide +kernel
theorem d_Mod_takeLinks_69 : decode b_Mod_takeLinks 69 = .ok (.getfield 26, 3) := by decide +kernel
theorem d_Mod_takeLinks_72 : decode b_Mod_takeLinks 72 = .ok (.iconst 4, 1) := by decide +kernel
theorem d_Mod_takeLinks_73 : decode b_Mod_takeLinks 73 = .ok (.iload_n 1, 1) := by decide +kernel
theorem d_Mod_takeLinks_74 : decode b_Mod_takeLinks 74 = .ok (.imul, 1) := by decide +kernel
theorem d_Mod_takeLinks_75 : decode b_Mod_takeLinks 75 = .ok (.iload_n 2, 1) := by decide +kernel
theorem d_Mod_takeLinks_76 : decode b_Mod_takeLinks 76 = .ok (.iadd, 1) := by decide +kernel
theorem d_Mod_takeLinks_77 : decode b_Mod_takeLinks 77 = .ok (.sipush 256, 3) := by decide +kernel
theorem d_Mod_takeLinks_80 : decode b_Mod_takeLinks 80 = .ok (.iload_n 1, 1) := by decide +kernel
theorem d_Mod_takeLinks_81 : decode b_Mod_takeLinks 81 = .ok (.iload 5, 2) := by decide +kernel
theorem d_Mod_takeLinks_83 : decode b_Mod_takeLinks 83 = .ok (.ixor, 1) := by decide +kernel
theorem d_Mod_takeLinks_84 : decode b_Mod_takeLinks 84 = .ok (.bipush 8, 2) := by decide +kernel
theorem d_Mod_takeLinks_86 : decode b_Mod_takeLinks 86 = .ok (.irem, 1) := by decide +kernel
theorem d_Mod_takeLinks_87 : decode b_Mod_takeLinks 87 = .ok (.imul, 1) := by decide +kernel
theorem d_Mod_takeLinks_88 : decode b_Mod_takeLinks 88 = .ok (.bipush 16, 2) := by decide +kernel
theorem d_Mod_takeLinks_90 : decode b_Mod_takeLinks 90 = .ok (.iload 4, 2) := by decide +kernel
theorem d_Mod_takeLinks_92 : decode b_Mod_takeLinks 92 = .ok (.imul, 1) := by decide +kernel
theorem d_Mod_takeLinks_93 : decode b_Mod_takeLinks 93 = .ok (.iadd, 1) := by decide +kernel
theorem d_Mod_takeLinks_94 : decode b_Mod_takeLinks 94 = .ok (.iload_n 3, 1) := by decide +kernel
theorem d_Mod_takeLinks_95 : decode b_Mod_takeLinks 95 = .ok (.iadd, 1) := by decide +kernel
theorem d_Mod_takeLinks_96 : decode b_Mod_takeLinks 96 = .ok (.iastore, 1) := by decide +kernel
theorem d_Mod_takeLinks_97 : decode b_Mod_takeLinks 97 = .ok (.iinc 2 1, 3) := by decide +kernel
theorem d_Mod_takeLinks_100 : decode b_Mod_takeLinks 100 = .ok (.goto (-98), 3) := by decide +kernel
theorem d_Mod_takeLinks_103 : decode b_Mod_takeLinks 103 = .ok (.return_, 1) := by decide +kernel
theorem d_Mod_reset_0 : decode b_Mod_reset 0 = .ok (.aload_n 0, 1) := by decide +kernel
theorem d_Mod_reset_1 : decode b_Mod_reset 1 = .ok (.getfield 127, 3) := by decide +kernel
theorem d_Mod_reset_4 : decode b_Mod_reset 4 = .ok (.istore_n 1, 1) := by decide +kernel
theorem d_Mod_reset_5 : decode b_Mod_reset 5 = .ok (.aload_n 0, 1) := by decide +kernel
theorem d_Mod_reset_6 : decode b_Mod_reset 6 = .ok (.iconst 0, 1) := by decide +kernel
theorem d_Mod_reset_7 : decode b_Mod_reset 7 = .ok (.putfield 127, 3) := by decide +kernel
theorem d_Mod_reset_10 : decode b_Mod_reset 10 = .ok (.iload_n 1, 1) := by decide +kernel
theorem d_Mod_reset_11 : decode b_Mod_reset 11 = .ok (.ireturn, 1) := by decide +kernel
theorem d_Mod_key_0 : decode b_Mod_key 0 = .ok (.iload_n 1, 1) := by decide +kernel
theorem d_Mod_key_1 : decode b_Mod_key 1 = .ok (.ifCond .lt 9, 3) := by decide +kernel
theorem d_Mod_key_4 : decode b_Mod_key 4 = .ok (.iload_n 1, 1) := by decide +kernel
theorem d_Mod_key_5 : decode b_Mod_key 5 = .ok (.bipush 15, 2) := by decide +kernel
theorem d_Mod_key_7 : decode b_Mod_key 7 = .ok (.if_icmp .le 5, 3) := by decide +kernel
theorem d_Mod_key_10 : decode b_Mod_key 10 = .ok (.iconst 0, 1) := by decide +kernel
theorem d_Mod_key_11 : decode b_Mod_key 11 = .ok (.ireturn, 1) := by decide +kernel
theorem d_Mod_key_12 : decode b_Mod_key 12 = .ok (.iload_n 1, 1) := by decide +kernel
theorem d_Mod_key_13 : decode b_Mod_key 13 = .ok (.bipush 10, 2) := by decide +kernel
theorem d_Mod_key_15 : decode b_Mod_key 15 = .ok (.if_icmp .ge 9, 3) := by decide +kernel
theorem d_Mod_key_18 : decode b_Mod_key 18 = .ok (.aload_n 0, 1) := by decide +kernel
theorem d_Mod_key_19 : decode b_Mod_key 19 = .ok (.iload_n 1, 1) := by decide +kernel
theorem d_Mod_key_20 : decode b_Mod_key 20 = .ok (.invokevirtual 150, 3) := by decide +kernel
theorem d_Mod_key_23 : decode b_Mod_key 23 = .ok (.ireturn, 1) := by decide +kernel
theorem d_Mod_key_24 : decode b_Mod_key 24 = .ok (.aload_n 0, 1) := by decide +kernel
theorem d_Mod_key_25 : decode b_Mod_key 25 = .ok (.iconst 0, 1) := by decide +kernel
theorem d_Mod_key_26 : decode b_Mod_key 26 = .ok (.putfield 138, 3) := by decide +kernel
theorem d_Mod_key_29 : decode b_Mod_key 29 = .ok (.aload_n 0, 1) := by decide +kernel
theorem d_Mod_key_30 : decode b_Mod_key 30 = .ok (.invokevirtual 154, 3) := by decide +kernel
theorem d_Mod_key_33 : decode b_Mod_key 33 = .ok (.istore_n 2, 1) := by decide +kernel
theorem d_Mod_key_34 : decode b_Mod_key 34 = .ok (.iload_n 1, 1) := by decide +kernel
theorem d_Mod_key_35 : decode b_Mod_key 35 = .ok (.bipush 15, 2) := by decide +kernel
theorem d_Mod_key_37 : decode b_Mod_key 37 = .ok (.if_icmp .ne 21, 3) := by decide +kernel
theorem d_Mod_key_40 : decode b_Mod_key 40 = .ok (.aload_n 0, 1) := by decide +kernel
theorem d_Mod_key_41 : decode b_Mod_key 41 = .ok (.aload_n 0, 1) := by decide +kernel
theorem d_Mod_key_42 : decode b_Mod_key 42 = .ok (.getfield 135, 3) := by decide +kernel
theorem d_Mod_key_45 : decode b_Mod_key 45 = .ok (.ifCond .ne 7, 3) := by decide +kernel
theorem d_Mod_key_48 : decode b_Mod_key 48 = .ok (.iconst 1, 1) := by decide +kernel
theorem d_Mod_key_49 : decode b_Mod_key 49 = .ok (.goto 4, 3) := by decide +kernel
theorem d_Mod_key_52 : decode b_Mod_key 52 = .ok (.iconst 0, 1) := by decide +kernel
theorem d_Mod_key_53 : decode b_Mod_key 53 = .ok (.putfield 135, 3) := by decide +kernel
theorem d_Mod_key_56 : decode b_Mod_key 56 = .ok (.iconst 1, 1) := by decide +kernel
theorem d_Mod_key_57 : decode b_Mod_key 57 = .ok (.ireturn, 1) := by decide +kernel
theorem d_Mod_key_58 : decode b_Mod_key 58 = .ok (.iload_n 2, 1) := by decide +kernel
theorem d_Mod_key_59 : decode b_Mod_key 59 = .ok (.ifCond .ge 5, 3) := by decide +kernel
theorem d_Mod_key_62 : decode b_Mod_key 62 = .ok (.iconst 0, 1) := by decide +kernel
theorem d_Mod_key_63 : decode b_Mod_key 63 = .ok (.ireturn, 1) := by decide +kernel
theorem d_Mod_key_64 : decode b_Mod_key 64 = .ok (.iload_n 1, 1) := by decide +kernel
theorem d_Mod_key_65 : decode b_Mod_key 65 = .ok (.bipush 14, 2) := by decide +kernel
theorem d_Mod_key_67 : decode b_Mod_key 67 = .ok (.if_icmp .ne 40, 3) := by decide +kernel
theorem d_Mod_key_70 : decode b_Mod_key 70 = .ok (.aload_n 0, 1) := by decide +kernel
theorem d_Mod_key_71 : decode b_Mod_key 71 = .ok (.getfield 7, 3) := by decide +kernel
theorem d_Mod_key_74 : decode b_Mod_key 74 = .ok (.bipush 12, 2) := by decide +kernel
theorem d_Mod_key_76 : decode b_Mod_key 76 = .ok (.baload, 1) := by decide +kernel
theorem d_Mod_key_77 : decode b_Mod_key 77 = .ok (.istore_n 3, 1) := by decide +kernel
theorem d_Mod_key_78 : decode b_Mod_key 78 = .ok (.iload_n 3, 1) := by decide +kernel
theorem d_Mod_key_79 : decode b_Mod_key 79 = .ok (.ifCond .ne 10, 3) := by decide +kernel
theorem d_Mod_key_82 : decode b_Mod_key 82 = .ok (.aload_n 0, 1) := by decide +kernel
theorem d_Mod_key_83 : decode b_Mod_key 83 = .ok (.iload_n 2, 1) := by decide +kernel
theorem d_Mod_key_84 : decode b_Mod_key 84 = .ok (.bipush 12, 2) := by decide +kernel
theorem d_Mod_key_86 : decode b_Mod_key 86 = .ok (.invokevirtual 86, 3) := by decide +kernel
theorem d_Mod_key_89 : decode b_Mod_key 89 = .ok (.aload_n 0, 1) := by decide +kernel
theorem d_Mod_key_90 : decode b_Mod_key 90 = .ok (.getfield 7, 3) := by decide +kernel
theorem d_Mod_key_93 : decode b_Mod_key 93 = .ok (.bipush 12, 2) := by decide +kernel
theorem d_Mod_key_95 : decode b_Mod_key 95 = .ok (.iload_n 3, 1) := by decide +kernel
theorem d_Mod_key_96 : decode b_Mod_key 96 = .ok (.ifCond .ne 7, 3) := by decide +kernel
theorem d_Mod_key_99 : decode b_Mod_key 99 = .ok (.iconst 1, 1) := by decide +kernel
theorem d_Mod_key_100 : decode b_Mod_key 100 = .ok (.goto 4, 3) := by decide +kernel
theorem d_Mod_key_103 : decode b_Mod_key 103 = .ok (.iconst 0, 1) := by decide +kernel
theorem d_Mod_key_104 : decode b_Mod_key 104 = .ok (.bastore, 1) := by decide +kernel
theorem d_Mod_key_105 : decode b_Mod_key 105 = .ok (.iconst 1, 1) := by decide +kernel
theorem d_Mod_key_106 : decode b_Mod_key 106 = .ok (.ireturn, 1) := by decide +kernel
theorem d_Mod_key_107 : decode b_Mod_key 107 = .ok (.aload_n 0, 1) := by decide +kernel
theorem d_Mod_key_108 : decode b_Mod_key 108 = .ok (.getfield 26, 3) := by decide +kernel
theorem d_Mod_key_111 : decode b_Mod_key 111 = .ok (.iconst 4, 1) := by decide +kernel
theorem d_Mod_key_112 : decode b_Mod_key 112 = .ok (.iload_n 2, 1) := by decide +kernel
theorem d_Mod_key_113 : decode b_Mod_key 113 = .ok (.imul, 1) := by decide +kernel
theorem d_Mod_key_114 : decode b_Mod_key 114 = .ok (.iload_n 1, 1) := by decide +kernel
theorem d_Mod_key_115 : decode b_Mod_key 115 = .ok (.iadd, 1) := by decide +kernel
theorem d_Mod_key_116 : decode b_Mod_key 116 = .ok (.bipush 10, 2) := by decide +kernel
theorem d_Mod_key_118 : decode b_Mod_key 118 = .ok (.isub, 1) := by decide +kernel
theorem d_Mod_key_119 : decode b_Mod_key 119 = .ok (.iaload, 1) := by decide +kernel
theorem d_Mod_key_120 : decode b_Mod_key 120 = .ok (.istore_n 3, 1) := by decide +kernel
theorem d_Mod_key_121 : decode b_Mod_key 121 = .ok (.iload_n 3, 1) := by decide +kernel
theorem d_Mod_key_122 : decode b_Mod_key 122 = .ok (.ifCond .lt 8, 3) := by decide +kernel
theorem d_Mod_key_125 : decode b_Mod_key 125 = .ok (.aload_n 0, 1) := by decide +kernel
theorem d_Mod_key_126 : decode b_Mod_key 126 = .ok (.iload_n 3, 1) := by decide +kernel
theorem d_Mod_key_127 : decode b_Mod_key 127 = .ok (.invokevirtual 147, 3) := by decide +kernel
theorem d_Mod_key_130 : decode b_Mod_key 130 = .ok (.iload_n 3, 1) := by decide +kernel
theorem d_Mod_key_131 : decode b_Mod_key 131 = .ok (.ifCond .lt 7, 3) := by decide +kernel
theorem d_Mod_key_134 : decode b_Mod_key 134 = .ok (.iconst 1, 1) := by decide +kernel
theorem d_Mod_key_135 : decode b_Mod_key 135 = .ok (.goto 4, 3) := by decide +kernel
theorem d_Mod_key_138 : decode b_Mod_key 138 = .ok (.iconst 0, 1) := by decide +kernel
theorem d_Mod_key_139 : decode b_Mod_key 139 = .ok (.ireturn, 1) := by decide +kernel
