theorem d_Mod_forget_0 : decode b_Mod_forget 0 = .ok (.aload_n 0, 1) := by decide +kernel
theorem d_Mod_forget_1 : decode b_Mod_forget 1 = .ok (.bipush 32, 2) := by decide +kernel
theorem d_Mod_forget_3 : decode b_Mod_forget 3 = .ok (.putfield 191, 3) := by decide +kernel
theorem d_Mod_forget_6 : decode b_Mod_forget 6 = .ok (.aload_n 0, 1) := by decide +kernel
theorem d_Mod_forget_7 : decode b_Mod_forget 7 = .ok (.iconst 0, 1) := by decide +kernel
theorem d_Mod_forget_8 : decode b_Mod_forget 8 = .ok (.putfield 194, 3) := by decide +kernel
theorem d_Mod_forget_11 : decode b_Mod_forget 11 = .ok (.return_, 1) := by decide +kernel
theorem d_Mod_noteLetter_0 : decode b_Mod_noteLetter 0 = .ok (.aload_n 0, 1) := by decide +kernel
theorem d_Mod_noteLetter_1 : decode b_Mod_noteLetter 1 = .ok (.getfield 167, 3) := by decide +kernel
theorem d_Mod_noteLetter_4 : decode b_Mod_noteLetter 4 = .ok (.ifCond .eq 19, 3) := by decide +kernel
theorem d_Mod_noteLetter_7 : decode b_Mod_noteLetter 7 = .ok (.iload_n 2, 1) := by decide +kernel
theorem d_Mod_noteLetter_8 : decode b_Mod_noteLetter 8 = .ok (.bipush 64, 2) := by decide +kernel
theorem d_Mod_noteLetter_10 : decode b_Mod_noteLetter 10 = .ok (.if_icmp .lt 9, 3) := by decide +kernel
theorem d_Mod_noteLetter_13 : decode b_Mod_noteLetter 13 = .ok (.iload_n 2, 1) := by decide +kernel
theorem d_Mod_noteLetter_14 : decode b_Mod_noteLetter 14 = .ok (.bipush 95, 2) := by decide +kernel
theorem d_Mod_noteLetter_16 : decode b_Mod_noteLetter 16 = .ok (.if_icmp .le 7, 3) := by decide +kernel
theorem d_Mod_noteLetter_19 : decode b_Mod_noteLetter 19 = .ok (.iconst 1, 1) := by decide +kernel
theorem d_Mod_noteLetter_20 : decode b_Mod_noteLetter 20 = .ok (.goto 4, 3) := by decide +kernel
theorem d_Mod_noteLetter_23 : decode b_Mod_noteLetter 23 = .ok (.iconst 0, 1) := by decide +kernel
theorem d_Mod_noteLetter_24 : decode b_Mod_noteLetter 24 = .ok (.istore 4, 2) := by decide +kernel
theorem d_Mod_noteLetter_26 : decode b_Mod_noteLetter 26 = .ok (.aload_n 0, 1) := by decide +kernel
theorem d_Mod_noteLetter_27 : decode b_Mod_noteLetter 27 = .ok (.getfield 55, 3) := by decide +kernel
theorem d_Mod_noteLetter_30 : decode b_Mod_noteLetter 30 = .ok (.iload_n 1, 1) := by decide +kernel
theorem d_Mod_noteLetter_31 : decode b_Mod_noteLetter 31 = .ok (.iaload, 1) := by decide +kernel
theorem d_Mod_noteLetter_32 : decode b_Mod_noteLetter 32 = .ok (.ifCond .eq 17, 3) := by decide +kernel
theorem d_Mod_noteLetter_35 : decode b_Mod_noteLetter 35 = .ok (.aload_n 0, 1) := by decide +kernel
theorem d_Mod_noteLetter_36 : decode b_Mod_noteLetter 36 = .ok (.iload_n 1, 1) := by decide +kernel
theorem d_Mod_noteLetter_37 : decode b_Mod_noteLetter 37 = .ok (.aload_n 0, 1) := by decide +kernel
theorem d_Mod_noteLetter_38 : decode b_Mod_noteLetter 38 = .ok (.getfield 55, 3) := by decide +kernel
theorem d_Mod_noteLetter_41 : decode b_Mod_noteLetter 41 = .ok (.iload_n 1, 1) := by decide +kernel
theorem d_Mod_noteLetter_42 : decode b_Mod_noteLetter 42 = .ok (.iaload, 1) := by decide +kernel
theorem d_Mod_noteLetter_43 : decode b_Mod_noteLetter 43 = .ok (.iconst 0, 1) := by decide +kernel
theorem d_Mod_noteLetter_44 : decode b_Mod_noteLetter 44 = .ok (.iconst 0, 1) := by decide +kernel
theorem d_Mod_noteLetter_45 : decode b_Mod_noteLetter 45 = .ok (.invokevirtual 207, 3) := by decide +kernel
theorem d_Mod_noteLetter_48 : decode b_Mod_noteLetter 48 = .ok (.return_, 1) := by decide +kernel
theorem d_Mod_noteLetter_49 : decode b_Mod_noteLetter 49 = .ok (.iload 4, 2) := by decide +kernel
theorem d_Mod_noteLetter_51 : decode b_Mod_noteLetter 51 = .ok (.ifCond .eq 28, 3) := by decide +kernel
theorem d_Mod_noteLetter_54 : decode b_Mod_noteLetter 54 = .ok (.aload_n 0, 1) := by decide +kernel
theorem d_Mod_noteLetter_55 : decode b_Mod_noteLetter 55 = .ok (.iload_n 2, 1) := by decide +kernel
theorem d_Mod_noteLetter_56 : decode b_Mod_noteLetter 56 = .ok (.putfield 191, 3) := by decide +kernel
theorem d_Mod_noteLetter_59 : decode b_Mod_noteLetter 59 = .ok (.aload_n 0, 1) := by decide +kernel
theorem d_Mod_noteLetter_60 : decode b_Mod_noteLetter 60 = .ok (.aload_n 0, 1) := by decide +kernel
theorem d_Mod_noteLetter_61 : decode b_Mod_noteLetter 61 = .ok (.getfield 182, 3) := by decide +kernel
theorem d_Mod_noteLetter_64 : decode b_Mod_noteLetter 64 = .ok (.putfield 194, 3) := by decide +kernel
theorem d_Mod_noteLetter_67 : decode b_Mod_noteLetter 67 = .ok (.aload_n 0, 1) := by decide +kernel
theorem d_Mod_noteLetter_68 : decode b_Mod_noteLetter 68 = .ok (.iload_n 1, 1) := by decide +kernel
theorem d_Mod_noteLetter_69 : decode b_Mod_noteLetter 69 = .ok (.iload_n 2, 1) := by decide +kernel
theorem d_Mod_noteLetter_70 : decode b_Mod_noteLetter 70 = .ok (.iconst 1, 1) := by decide +kernel
theorem d_Mod_noteLetter_71 : decode b_Mod_noteLetter 71 = .ok (.aload_n 0, 1) := by decide +kernel
theorem d_Mod_noteLetter_72 : decode b_Mod_noteLetter 72 = .ok (.getfield 182, 3) := by decide +kernel
theorem d_Mod_noteLetter_75 : decode b_Mod_noteLetter 75 = .ok (.invokevirtual 207, 3) := by decide +kernel
theorem d_Mod_noteLetter_78 : decode b_Mod_noteLetter 78 = .ok (.return_, 1) := by decide +kernel
theorem d_Mod_noteLetter_79 : decode b_Mod_noteLetter 79 = .ok (.iload_n 3, 1) := by decide +kernel
theorem d_Mod_noteLetter_80 : decode b_Mod_noteLetter 80 = .ok (.ifCond .ne 7, 3) := by decide +kernel
theorem d_Mod_noteLetter_83 : decode b_Mod_noteLetter 83 = .ok (.iconst (-1), 1) := by decide +kernel
theorem d_Mod_noteLetter_84 : decode b_Mod_noteLetter 84 = .ok (.goto 7, 3) := by decide +kernel
theorem d_Mod_noteLetter_87 : decode b_Mod_noteLetter 87 = .ok (.iload_n 2, 1) := by decide +kernel
theorem d_Mod_noteLetter_88 : decode b_Mod_noteLetter 88 = .ok (.invokestatic 211, 3) := by decide +kernel
theorem d_Mod_noteLetter_91 : decode b_Mod_noteLetter 91 = .ok (.istore 5, 2) := by decide +kernel
theorem d_Mod_noteLetter_93 : decode b_Mod_noteLetter 93 = .ok (.aload_n 0, 1) := by decide +kernel
theorem d_Mod_noteLetter_94 : decode b_Mod_noteLetter 94 = .ok (.iload_n 1, 1) := by decide +kernel
theorem d_Mod_noteLetter_95 : decode b_Mod_noteLetter 95 = .ok (.iload 5, 2) := by decide +kernel
theorem d_Mod_noteLetter_97 : decode b_Mod_noteLetter 97 = .ok (.ifCond .ge 7, 3) := by decide +kernel
theorem d_Mod_noteLetter_100 : decode b_Mod_noteLetter 100 = .ok (.iload_n 2, 1) := by decide +kernel
theorem d_Mod_noteLetter_101 : decode b_Mod_noteLetter 101 = .ok (.goto 14, 3) := by decide +kernel
theorem d_Mod_noteLetter_104 : decode b_Mod_noteLetter 104 = .ok (.sipush 512, 3) := by decide +kernel
theorem d_Mod_noteLetter_107 : decode b_Mod_noteLetter 107 = .ok (.bipush 16, 2) := by decide +kernel
theorem d_Mod_noteLetter_109 : decode b_Mod_noteLetter 109 = .ok (.iload_n 3, 1) := by decide +kernel
theorem d_Mod_noteLetter_110 : decode b_Mod_noteLetter 110 = .ok (.imul, 1) := by decide +kernel
theorem d_Mod_noteLetter_111 : decode b_Mod_noteLetter 111 = .ok (.iadd, 1) := by decide +kernel
theorem d_Mod_noteLetter_112 : decode b_Mod_noteLetter 112 = .ok (.iload 5, 2) := by decide +kernel
theorem d_Mod_noteLetter_114 : decode b_Mod_noteLetter 114 = .ok (.iadd, 1) := by decide +kernel
theorem d_Mod_noteLetter_115 : decode b_Mod_noteLetter 115 = .ok (.iconst 0, 1) := by decide +kernel
theorem d_Mod_noteLetter_116 : decode b_Mod_noteLetter 116 = .ok (.iconst 0, 1) := by decide +kernel
theorem d_Mod_noteLetter_117 : decode b_Mod_noteLetter 117 = .ok (.invokevirtual 207, 3) := by decide +kernel
theorem d_Mod_noteLetter_120 : decode b_Mod_noteLetter 120 = .ok (.return_, 1) := by decide +kernel
theorem d_Mod_note_0 : decode b_Mod_note 0 = .ok (.aload_n 0, 1) := by decide +kernel
theorem d_Mod_note_1 : decode b_Mod_note 1 = .ok (.getfield 173, 3) := by decide +kernel
theorem d_Mod_note_4 : decode b_Mod_note 4 = .ok (.ifCond .eq 10, 3) := by decide +kernel
theorem d_Mod_note_7 : decode b_Mod_note 7 = .ok (.aload_n 0, 1) := by decide +kernel
theorem d_Mod_note_8 : decode b_Mod_note 8 = .ok (.getfield 135, 3) := by decide +kernel
theorem d_Mod_note_11 : decode b_Mod_note 11 = .ok (.ifCond .eq 17, 3) := by decide +kernel
theorem d_Mod_note_14 : decode b_Mod_note 14 = .ok (.aload_n 0, 1) := by decide +kernel
theorem d_Mod_note_15 : decode b_Mod_note 15 = .ok (.getfield 170, 3) := by decide +kernel
theorem d_Mod_note_18 : decode b_Mod_note 18 = .ok (.ifCond .eq 14, 3) := by decide +kernel
theorem d_Mod_note_21 : decode b_Mod_note 21 = .ok (.aload_n 0, 1) := by decide +kernel
theorem d_Mod_note_22 : decode b_Mod_note 22 = .ok (.getfield 48, 3) := by decide +kernel
theorem d_Mod_note_25 : decode b_Mod_note 25 = .ok (.ifCond .ne 7, 3) := by decide +kernel
theorem d_Mod_note_28 : decode b_Mod_note 28 = .ok (.iconst 1, 1) := by decide +kernel
theorem d_Mod_note_29 : decode b_Mod_note 29 = .ok (.goto 4, 3) := by decide +kernel
theorem d_Mod_note_32 : decode b_Mod_note 32 = .ok (.iconst 0, 1) := by decide +kernel
theorem d_Mod_note_33 : decode b_Mod_note 33 = .ok (.istore 5, 2) := by decide +kernel
theorem d_Mod_note_35 : decode b_Mod_note 35 = .ok (.aload_n 0, 1) := by decide +kernel
theorem d_Mod_note_36 : decode b_Mod_note 36 = .ok (.getfield 58, 3) := by decide +kernel
theorem d_Mod_note_39 : decode b_Mod_note 39 = .ok (.iload_n 1, 1) := by decide +kernel
theorem d_Mod_note_40 : decode b_Mod_note 40 = .ok (.iload 5, 2) := by decide +kernel
theorem d_Mod_note_42 : decode b_Mod_note 42 = .ok (.ifCond .eq 8, 3) := by decide +kernel
theorem d_Mod_note_45 : decode b_Mod_note 45 = .ok (.bipush 32, 2) := by decide +kernel
theorem d_Mod_note_47 : decode b_Mod_note 47 = .ok (.goto 4, 3) := by decide +kernel
theorem d_Mod_note_50 : decode b_Mod_note 50 = .ok (.iload_n 2, 1) := by decide +kernel
theorem d_Mod_note_51 : decode b_Mod_note 51 = .ok (.iastore, 1) := by decide +kernel
theorem d_Mod_note_52 : decode b_Mod_note 52 = .ok (.aload_n 0, 1) := by decide +kernel
theorem d_Mod_note_53 : decode b_Mod_note 53 = .ok (.getfield 61, 3) := by decide +kernel
theorem d_Mod_note_56 : decode b_Mod_note 56 = .ok (.iload_n 1, 1) := by decide +kernel
theorem d_Mod_note_57 : decode b_Mod_note 57 = .ok (.aload_n 0, 1) := by decide +kernel
theorem d_Mod_note_58 : decode b_Mod_note 58 = .ok (.getfield 161, 3) := by decide +kernel
theorem d_Mod_note_61 : decode b_Mod_note 61 = .ok (.iastore, 1) := by decide +kernel
theorem d_Mod_note_62 : decode b_Mod_note 62 = .ok (.aload_n 0, 1) := by decide +kernel
theorem d_Mod_note_63 : decode b_Mod_note 63 = .ok (.getfield 64, 3) := by decide +kernel
theorem d_Mod_note_66 : decode b_Mod_note 66 = .ok (.iload_n 1, 1) := by decide +kernel
theorem d_Mod_note_67 : decode b_Mod_note 67 = .ok (.aload_n 0, 1) := by decide +kernel
theorem d_Mod_note_68 : decode b_Mod_note 68 = .ok (.getfield 164, 3) := by decide +kernel
theorem d_Mod_note_71 : decode b_Mod_note 71 = .ok (.iastore, 1) := by decide +kernel
theorem d_Mod_note_72 : decode b_Mod_note 72 = .ok (.iload_n 3, 1) := by decide +kernel
theorem d_Mod_note_73 : decode b_Mod_note 73 = .ok (.ifCond .eq 21, 3) := by decide +kernel
theorem d_Mod_note_76 : decode b_Mod_note 76 = .ok (.iload 5, 2) := by decide +kernel
theorem d_Mod_note_78 : decode b_Mod_note 78 = .ok (.ifCond .ne 16, 3) := by decide +kernel
theorem d_Mod_note_81 : decode b_Mod_note 81 = .ok (.iload 4, 2) := by decide +kernel
theorem d_Mod_note_83 : decode b_Mod_note 83 = .ok (.ifCond .eq 7, 3) := by decide +kernel
theorem d_Mod_note_86 : decode b_Mod_note 86 = .ok (.iconst 3, 1) := by decide +kernel
theorem d_Mod_note_87 : decode b_Mod_note 87 = .ok (.goto 8, 3) := by decide +kernel
theorem d_Mod_note_90 : decode b_Mod_note 90 = .ok (.iconst 1, 1) := by decide +kernel
theorem d_Mod_note_91 : decode b_Mod_note 91 = .ok (.goto 4, 3) := by decide +kernel
theorem d_Mod_note_94 : decode b_Mod_note 94 = .ok (.iconst 0, 1) := by decide +kernel
theorem d_Mod_note_95 : decode b_Mod_note 95 = .ok (.istore 6, 2) := by decide +kernel
theorem d_Mod_note_97 : decode b_Mod_note 97 = .ok (.aload_n 0, 1) := by decide +kernel
theorem d_Mod_note_98 : decode b_Mod_note 98 = .ok (.getfield 67, 3) := by decide +kernel
theorem d_Mod_note_101 : decode b_Mod_note 101 = .ok (.iload_n 1, 1) := by decide +kernel
theorem d_Mod_note_102 : decode b_Mod_note 102 = .ok (.iload 6, 2) := by decide +kernel
theorem d_Mod_note_104 : decode b_Mod_note 104 = .ok (.aload_n 0, 1) := by decide +kernel
theorem d_Mod_note_105 : decode b_Mod_note 105 = .ok (.getfield 179, 3) := by decide +kernel
theorem d_Mod_note_108 : decode b_Mod_note 108 = .ok (.ifCond .eq 14, 3) := by decide +kernel
theorem d_Mod_note_111 : decode b_Mod_note 111 = .ok (.aload_n 0, 1) := by decide +kernel
theorem d_Mod_note_112 : decode b_Mod_note 112 = .ok (.getfield 204, 3) := by decide +kernel
theorem d_Mod_note_115 : decode b_Mod_note 115 = .ok (.ifCond .eq 7, 3) := by decide +kernel
theorem d_Mod_note_118 : decode b_Mod_note 118 = .ok (.iconst 4, 1) := by decide +kernel
theorem d_Mod_note_119 : decode b_Mod_note 119 = .ok (.goto 4, 3) := by decide +kernel
theorem d_Mod_note_122 : decode b_Mod_note 122 = .ok (.iconst 0, 1) := by decide +kernel
theorem d_Mod_note_123 : decode b_Mod_note 123 = .ok (.iadd, 1) := by decide +kernel
theorem d_Mod_note_124 : decode b_Mod_note 124 = .ok (.aload_n 0, 1) := by decide +kernel
theorem d_Mod_note_125 : decode b_Mod_note 125 = .ok (.getfield 170, 3) := by decide +kernel
theorem d_Mod_note_128 : decode b_Mod_note 128 = .ok (.ifCond .eq 8, 3) := by decide +kernel
theorem d_Mod_note_131 : decode b_Mod_note 131 = .ok (.bipush 16, 2) := by decide +kernel
theorem d_Mod_note_133 : decode b_Mod_note 133 = .ok (.goto 4, 3) := by decide +kernel
theorem d_Mod_note_136 : decode b_Mod_note 136 = .ok (.iconst 0, 1) := by decide +kernel
theorem d_Mod_note_137 : decode b_Mod_note 137 = .ok (.iadd, 1) := by decide +kernel
theorem d_Mod_note_138 : decode b_Mod_note 138 = .ok (.aload_n 0, 1) := by decide +kernel
theorem d_Mod_note_139 : decode b_Mod_note 139 = .ok (.getfield 173, 3) := by decide +kernel
theorem d_Mod_note_142 : decode b_Mod_note 142 = .ok (.ifCond .eq 8, 3) := by decide +kernel
theorem d_Mod_note_145 : decode b_Mod_note 145 = .ok (.bipush 32, 2) := by decide +kernel
theorem d_Mod_note_147 : decode b_Mod_note 147 = .ok (.goto 4, 3) := by decide +kernel
theorem d_Mod_note_150 : decode b_Mod_note 150 = .ok (.iconst 0, 1) := by decide +kernel
theorem d_Mod_note_151 : decode b_Mod_note 151 = .ok (.iadd, 1) := by decide +kernel
theorem d_Mod_note_152 : decode b_Mod_note 152 = .ok (.aload_n 0, 1) := by decide +kernel
theorem d_Mod_note_153 : decode b_Mod_note 153 = .ok (.getfield 176, 3) := by decide +kernel
theorem d_Mod_note_156 : decode b_Mod_note 156 = .ok (.ifCond .eq 8, 3) := by decide +kernel
theorem d_Mod_note_159 : decode b_Mod_note 159 = .ok (.bipush 64, 2) := by decide +kernel
theorem d_Mod_note_161 : decode b_Mod_note 161 = .ok (.goto 4, 3) := by decide +kernel
theorem d_Mod_note_164 : decode b_Mod_note 164 = .ok (.iconst 0, 1) := by decide +kernel
theorem d_Mod_note_165 : decode b_Mod_note 165 = .ok (.iadd, 1) := by decide +kernel
theorem d_Mod_note_166 : decode b_Mod_note 166 = .ok (.iastore, 1) := by decide +kernel
theorem d_Mod_note_167 : decode b_Mod_note 167 = .ok (.return_, 1) := by decide +kernel
theorem d_Mod_changed_0 : decode b_Mod_changed 0 = .ok (.iload_n 0, 1) := by decide +kernel
theorem d_Mod_changed_1 : decode b_Mod_changed 1 = .ok (.bipush 35, 2) := by decide +kernel
theorem d_Mod_changed_3 : decode b_Mod_changed 3 = .ok (.if_icmp .eq 9, 3) := by decide +kernel
theorem d_Mod_changed_6 : decode b_Mod_changed 6 = .ok (.iload_n 0, 1) := by decide +kernel
theorem d_Mod_changed_7 : decode b_Mod_changed 7 = .ok (.bipush 36, 2) := by decide +kernel
theorem d_Mod_changed_9 : decode b_Mod_changed 9 = .ok (.if_icmp .ne 10, 3) := by decide +kernel
theorem d_Mod_changed_12 : decode b_Mod_changed 12 = .ok (.iload_n 0, 1) := by decide +kernel
theorem d_Mod_changed_13 : decode b_Mod_changed 13 = .ok (.bipush 35, 2) := by decide +kernel
theorem d_Mod_changed_15 : decode b_Mod_changed 15 = .ok (.isub, 1) := by decide +kernel
theorem d_Mod_changed_16 : decode b_Mod_changed 16 = .ok (.goto 52, 3) := by decide +kernel
theorem d_Mod_changed_19 : decode b_Mod_changed 19 = .ok (.iload_n 0, 1) := by decide +kernel
theorem d_Mod_changed_20 : decode b_Mod_changed 20 = .ok (.bipush 64, 2) := by decide +kernel
theorem d_Mod_changed_22 : decode b_Mod_changed 22 = .ok (.if_icmp .ne 7, 3) := by decide +kernel
theorem d_Mod_changed_25 : decode b_Mod_changed 25 = .ok (.iconst 2, 1) := by decide +kernel
theorem d_Mod_changed_26 : decode b_Mod_changed 26 = .ok (.goto 42, 3) := by decide +kernel
theorem d_Mod_changed_29 : decode b_Mod_changed 29 = .ok (.iload_n 0, 1) := by decide +kernel
theorem d_Mod_changed_30 : decode b_Mod_changed 30 = .ok (.bipush 90, 2) := by decide +kernel
theorem d_Mod_changed_32 : decode b_Mod_changed 32 = .ok (.if_icmp .le 16, 3) := by decide +kernel
theorem d_Mod_changed_35 : decode b_Mod_changed 35 = .ok (.iload_n 0, 1) := by decide +kernel
theorem d_Mod_changed_36 : decode b_Mod_changed 36 = .ok (.bipush 97, 2) := by decide +kernel
theorem d_Mod_changed_38 : decode b_Mod_changed 38 = .ok (.if_icmp .ge 10, 3) := by decide +kernel
theorem d_Mod_changed_41 : decode b_Mod_changed 41 = .ok (.iload_n 0, 1) := by decide +kernel
theorem d_Mod_changed_42 : decode b_Mod_changed 42 = .ok (.bipush 88, 2) := by decide +kernel
theorem d_Mod_changed_44 : decode b_Mod_changed 44 = .ok (.isub, 1) := by decide +kernel
theorem d_Mod_changed_45 : decode b_Mod_changed 45 = .ok (.goto 23, 3) := by decide +kernel
theorem d_Mod_changed_48 : decode b_Mod_changed 48 = .ok (.iload_n 0, 1) := by decide +kernel
theorem d_Mod_changed_49 : decode b_Mod_changed 49 = .ok (.bipush 122, 2) := by decide +kernel
theorem d_Mod_changed_51 : decode b_Mod_changed 51 = .ok (.if_icmp .le 16, 3) := by decide +kernel
theorem d_Mod_changed_54 : decode b_Mod_changed 54 = .ok (.iload_n 0, 1) := by decide +kernel
theorem d_Mod_changed_55 : decode b_Mod_changed 55 = .ok (.bipush 127, 2) := by decide +kernel
theorem d_Mod_changed_57 : decode b_Mod_changed 57 = .ok (.if_icmp .ge 10, 3) := by decide +kernel
theorem d_Mod_changed_60 : decode b_Mod_changed 60 = .ok (.iload_n 0, 1) := by decide +kernel
theorem d_Mod_changed_61 : decode b_Mod_changed 61 = .ok (.bipush 114, 2) := by decide +kernel
theorem d_Mod_changed_63 : decode b_Mod_changed 63 = .ok (.isub, 1) := by decide +kernel
theorem d_Mod_changed_64 : decode b_Mod_changed 64 = .ok (.goto 4, 3) := by decide +kernel
theorem d_Mod_changed_67 : decode b_Mod_changed 67 = .ok (.iconst (-1), 1) := by decide +kernel
theorem d_Mod_changed_68 : decode b_Mod_changed 68 = .ok (.ireturn, 1) := by decide +kernel
theorem d_Mod_before_0 : decode b_Mod_before 0 = .ok (.iload_n 1, 1) := by decide +kernel
theorem d_Mod_before_1 : decode b_Mod_before 1 = .ok (.tableswitch 170 9 30 #[103, 170, 170, 111, 170, 170, 170, 170, 170, 170, 170, 170, 170, 170, 170, 119, 127, 135, 170, 143, 151, 162], 103) := by decide +kernel
theorem d_Mod_before_104 : decode b_Mod_before 104 = .ok (.aload_n 0, 1) := by decide +kernel
theorem d_Mod_before_105 : decode b_Mod_before 105 = .ok (.iconst 0, 1) := by decide +kernel
theorem d_Mod_before_106 : decode b_Mod_before 106 = .ok (.putfield 170, 3) := by decide +kernel
theorem d_Mod_before_109 : decode b_Mod_before 109 = .ok (.goto 62, 3) := by decide +kernel
theorem d_Mod_before_112 : decode b_Mod_before 112 = .ok (.aload_n 0, 1) := by decide +kernel
theorem d_Mod_before_113 : decode b_Mod_before 113 = .ok (.iconst 0, 1) := by decide +kernel
theorem d_Mod_before_114 : decode b_Mod_before 114 = .ok (.invokevirtual 197, 3) := by decide +kernel
theorem d_Mod_before_117 : decode b_Mod_before 117 = .ok (.goto 54, 3) := by decide +kernel
theorem d_Mod_before_120 : decode b_Mod_before 120 = .ok (.aload_n 0, 1) := by decide +kernel
theorem d_Mod_before_121 : decode b_Mod_before 121 = .ok (.iconst 1, 1) := by decide +kernel
theorem d_Mod_before_122 : decode b_Mod_before 122 = .ok (.putfield 173, 3) := by decide +kernel
theorem d_Mod_before_125 : decode b_Mod_before 125 = .ok (.goto 46, 3) := by decide +kernel
theorem d_Mod_before_128 : decode b_Mod_before 128 = .ok (.aload_n 0, 1) := by decide +kernel
theorem d_Mod_before_129 : decode b_Mod_before 129 = .ok (.iconst 0, 1) := by decide +kernel
theorem d_Mod_before_130 : decode b_Mod_before 130 = .ok (.putfield 182, 3) := by decide +kernel
theorem d_Mod_before_133 : decode b_Mod_before 133 = .ok (.goto 38, 3) := by decide +kernel
theorem d_Mod_before_136 : decode b_Mod_before 136 = .ok (.aload_n 0, 1) := by decide +kernel
theorem d_Mod_before_137 : decode b_Mod_before 137 = .ok (.iconst 1, 1) := by decide +kernel
theorem d_Mod_before_138 : decode b_Mod_before 138 = .ok (.putfield 182, 3) := by decide +kernel
theorem d_Mod_before_141 : decode b_Mod_before 141 = .ok (.goto 30, 3) := by decide +kernel
theorem d_Mod_before_144 : decode b_Mod_before 144 = .ok (.aload_n 0, 1) := by decide +kernel
theorem d_Mod_before_145 : decode b_Mod_before 145 = .ok (.iconst 0, 1) := by decide +kernel
theorem d_Mod_before_146 : decode b_Mod_before 146 = .ok (.putfield 164, 3) := by decide +kernel
theorem d_Mod_before_149 : decode b_Mod_before 149 = .ok (.goto 22, 3) := by decide +kernel
theorem d_Mod_before_152 : decode b_Mod_before 152 = .ok (.aload_n 0, 1) := by decide +kernel
theorem d_Mod_before_153 : decode b_Mod_before 153 = .ok (.aload_n 0, 1) := by decide +kernel
theorem d_Mod_before_154 : decode b_Mod_before 154 = .ok (.getfield 161, 3) := by decide +kernel
theorem d_Mod_before_157 : decode b_Mod_before 157 = .ok (.putfield 164, 3) := by decide +kernel
theorem d_Mod_before_160 : decode b_Mod_before 160 = .ok (.goto 11, 3) := by decide +kernel
theorem d_Mod_before_163 : decode b_Mod_before 163 = .ok (.aload_n 0, 1) := by decide +kernel
theorem d_Mod_before_164 : decode b_Mod_before 164 = .ok (.iconst 1, 1) := by decide +kernel
theorem d_Mod_before_165 : decode b_Mod_before 165 = .ok (.putfield 185, 3) := by decide +kernel
theorem d_Mod_before_168 : decode b_Mod_before 168 = .ok (.goto 3, 3) := by decide +kernel
theorem d_Mod_before_171 : decode b_Mod_before 171 = .ok (.return_, 1) := by decide +kernel
theorem d_Mod_setTwice_0 : decode b_Mod_setTwice 0 = .ok (.aload_n 0, 1) := by decide +kernel
theorem d_Mod_setTwice_1 : decode b_Mod_setTwice 1 = .ok (.getfield 179, 3) := by decide +kernel
theorem d_Mod_setTwice_4 : decode b_Mod_setTwice 4 = .ok (.iload_n 1, 1) := by decide +kernel
theorem d_Mod_setTwice_5 : decode b_Mod_setTwice 5 = .ok (.if_icmp .eq 7, 3) := by decide +kernel
theorem d_Mod_setTwice_8 : decode b_Mod_setTwice 8 = .ok (.aload_n 0, 1) := by decide +kernel
theorem d_Mod_setTwice_9 : decode b_Mod_setTwice 9 = .ok (.invokevirtual 188, 3) := by decide +kernel
theorem d_Mod_setTwice_12 : decode b_Mod_setTwice 12 = .ok (.aload_n 0, 1) := by decide +kernel
theorem d_Mod_setTwice_13 : decode b_Mod_setTwice 13 = .ok (.iload_n 1, 1) := by decide +kernel
theorem d_Mod_setTwice_14 : decode b_Mod_setTwice 14 = .ok (.putfield 179, 3) := by decide +kernel
theorem d_Mod_setTwice_17 : decode b_Mod_setTwice 17 = .ok (.return_, 1) := by decide +kernel
theorem d_Mod_after_0 : decode b_Mod_after 0 = .ok (.iload_n 1, 1) := by decide +kernel
theorem d_Mod_after_1 : decode b_Mod_after 1 = .ok (.bipush 8, 2) := by decide +kernel
theorem d_Mod_after_3 : decode b_Mod_after 3 = .ok (.if_icmp .lt 15, 3) := by decide +kernel
theorem d_Mod_after_6 : decode b_Mod_after 6 = .ok (.iload_n 1, 1) := by decide +kernel
theorem d_Mod_after_7 : decode b_Mod_after 7 = .ok (.bipush 15, 2) := by decide +kernel
theorem d_Mod_after_9 : decode b_Mod_after 9 = .ok (.if_icmp .le 37, 3) := by decide +kernel
theorem d_Mod_after_12 : decode b_Mod_after 12 = .ok (.iload_n 1, 1) := by decide +kernel
theorem d_Mod_after_13 : decode b_Mod_after 13 = .ok (.bipush 24, 2) := by decide +kernel
theorem d_Mod_after_15 : decode b_Mod_after 15 = .ok (.if_icmp .ge 31, 3) := by decide +kernel
theorem d_Mod_after_18 : decode b_Mod_after 18 = .ok (.aload_n 0, 1) := by decide +kernel
theorem d_Mod_after_19 : decode b_Mod_after 19 = .ok (.iload_n 1, 1) := by decide +kernel
theorem d_Mod_after_20 : decode b_Mod_after 20 = .ok (.bipush 8, 2) := by decide +kernel
theorem d_Mod_after_22 : decode b_Mod_after 22 = .ok (.irem, 1) := by decide +kernel
theorem d_Mod_after_23 : decode b_Mod_after 23 = .ok (.putfield 161, 3) := by decide +kernel
theorem d_Mod_after_26 : decode b_Mod_after 26 = .ok (.aload_n 0, 1) := by decide +kernel
theorem d_Mod_after_27 : decode b_Mod_after 27 = .ok (.iload_n 1, 1) := by decide +kernel
theorem d_Mod_after_28 : decode b_Mod_after 28 = .ok (.bipush 15, 2) := by decide +kernel
theorem d_Mod_after_30 : decode b_Mod_after 30 = .ok (.if_icmp .le 7, 3) := by decide +kernel
theorem d_Mod_after_33 : decode b_Mod_after 33 = .ok (.iconst 1, 1) := by decide +kernel
theorem d_Mod_after_34 : decode b_Mod_after 34 = .ok (.goto 4, 3) := by decide +kernel
theorem d_Mod_after_37 : decode b_Mod_after 37 = .ok (.iconst 0, 1) := by decide +kernel
theorem d_Mod_after_38 : decode b_Mod_after 38 = .ok (.invokevirtual 201, 3) := by decide +kernel
theorem d_Mod_after_41 : decode b_Mod_after 41 = .ok (.aload_n 0, 1) := by decide +kernel
theorem d_Mod_after_42 : decode b_Mod_after 42 = .ok (.iconst 0, 1) := by decide +kernel
theorem d_Mod_after_43 : decode b_Mod_after 43 = .ok (.putfield 173, 3) := by decide +kernel
theorem d_Mod_after_46 : decode b_Mod_after 46 = .ok (.iload_n 1, 1) := by decide +kernel
theorem d_Mod_after_47 : decode b_Mod_after 47 = .ok (.lookupswitch 89 #[(8, 49), (10, 57), (11, 65), (13, 73), (31, 81)], 49) := by decide +kernel
theorem d_Mod_after_96 : decode b_Mod_after 96 = .ok (.aload_n 0, 1) := by decide +kernel
theorem d_Mod_after_97 : decode b_Mod_after 97 = .ok (.iconst 1, 1) := by decide +kernel
theorem d_Mod_after_98 : decode b_Mod_after 98 = .ok (.putfield 170, 3) := by decide +kernel
theorem d_Mod_after_101 : decode b_Mod_after 101 = .ok (.goto 35, 3) := by decide +kernel
theorem d_Mod_after_104 : decode b_Mod_after 104 = .ok (.aload_n 0, 1) := by decide +kernel
theorem d_Mod_after_105 : decode b_Mod_after 105 = .ok (.iconst 0, 1) := by decide +kernel
theorem d_Mod_after_106 : decode b_Mod_after 106 = .ok (.putfield 176, 3) := by decide +kernel
theorem d_Mod_after_109 : decode b_Mod_after 109 = .ok (.goto 27, 3) := by decide +kernel
theorem d_Mod_after_112 : decode b_Mod_after 112 = .ok (.aload_n 0, 1) := by decide +kernel
theorem d_Mod_after_113 : decode b_Mod_after 113 = .ok (.iconst 1, 1) := by decide +kernel
theorem d_Mod_after_114 : decode b_Mod_after 114 = .ok (.putfield 176, 3) := by decide +kernel
theorem d_Mod_after_117 : decode b_Mod_after 117 = .ok (.goto 19, 3) := by decide +kernel
theorem d_Mod_after_120 : decode b_Mod_after 120 = .ok (.aload_n 0, 1) := by decide +kernel
theorem d_Mod_after_121 : decode b_Mod_after 121 = .ok (.iconst 1, 1) := by decide +kernel
theorem d_Mod_after_122 : decode b_Mod_after 122 = .ok (.invokevirtual 197, 3) := by decide +kernel
theorem d_Mod_after_125 : decode b_Mod_after 125 = .ok (.goto 11, 3) := by decide +kernel
theorem d_Mod_after_128 : decode b_Mod_after 128 = .ok (.aload_n 0, 1) := by decide +kernel
theorem d_Mod_after_129 : decode b_Mod_after 129 = .ok (.iconst 0, 1) := by decide +kernel
theorem d_Mod_after_130 : decode b_Mod_after 130 = .ok (.putfield 185, 3) := by decide +kernel
theorem d_Mod_after_133 : decode b_Mod_after 133 = .ok (.goto 3, 3) := by decide +kernel
theorem d_Mod_after_136 : decode b_Mod_after 136 = .ok (.return_, 1) := by decide +kernel
theorem d_Mod_setMosaic_0 : decode b_Mod_setMosaic 0 = .ok (.aload_n 0, 1) := by decide +kernel
theorem d_Mod_setMosaic_1 : decode b_Mod_setMosaic 1 = .ok (.getfield 167, 3) := by decide +kernel
theorem d_Mod_setMosaic_4 : decode b_Mod_setMosaic 4 = .ok (.iload_n 1, 1) := by decide +kernel
theorem d_Mod_setMosaic_5 : decode b_Mod_setMosaic 5 = .ok (.if_icmp .eq 7, 3) := by decide +kernel
theorem d_Mod_setMosaic_8 : decode b_Mod_setMosaic 8 = .ok (.aload_n 0, 1) := by decide +kernel
theorem d_Mod_setMosaic_9 : decode b_Mod_setMosaic 9 = .ok (.invokevirtual 188, 3) := by decide +kernel
theorem d_Mod_setMosaic_12 : decode b_Mod_setMosaic 12 = .ok (.aload_n 0, 1) := by decide +kernel
theorem d_Mod_setMosaic_13 : decode b_Mod_setMosaic 13 = .ok (.iload_n 1, 1) := by decide +kernel
theorem d_Mod_setMosaic_14 : decode b_Mod_setMosaic 14 = .ok (.putfield 167, 3) := by decide +kernel
theorem d_Mod_setMosaic_17 : decode b_Mod_setMosaic 17 = .ok (.return_, 1) := by decide +kernel
theorem d_Mod_point_0 : decode b_Mod_point 0 = .ok (.iload_n 1, 1) := by decide +kernel
theorem d_Mod_point_1 : decode b_Mod_point 1 = .ok (.iload_n 2, 1) := by decide +kernel
theorem d_Mod_point_2 : decode b_Mod_point 2 = .ok (.invokestatic 233, 3) := by decide +kernel
theorem d_Mod_point_5 : decode b_Mod_point 5 = .ok (.ifCond .eq 23, 3) := by decide +kernel
theorem d_Mod_point_8 : decode b_Mod_point 8 = .ok (.iload_n 3, 1) := by decide +kernel
theorem d_Mod_point_9 : decode b_Mod_point 9 = .ok (.ifCond .lt 19, 3) := by decide +kernel
theorem d_Mod_point_12 : decode b_Mod_point 12 = .ok (.iload_n 3, 1) := by decide +kernel
theorem d_Mod_point_13 : decode b_Mod_point 13 = .ok (.iconst 3, 1) := by decide +kernel
theorem d_Mod_point_14 : decode b_Mod_point 14 = .ok (.if_icmp .gt 14, 3) := by decide +kernel
theorem d_Mod_point_17 : decode b_Mod_point 17 = .ok (.iload 4, 2) := by decide +kernel
theorem d_Mod_point_19 : decode b_Mod_point 19 = .ok (.ifCond .lt 9, 3) := by decide +kernel
theorem d_Mod_point_22 : decode b_Mod_point 22 = .ok (.iload 4, 2) := by decide +kernel
theorem d_Mod_point_24 : decode b_Mod_point 24 = .ok (.iconst 5, 1) := by decide +kernel
theorem d_Mod_point_25 : decode b_Mod_point 25 = .ok (.if_icmp .le 5, 3) := by decide +kernel
theorem d_Mod_point_28 : decode b_Mod_point 28 = .ok (.iconst (-1), 1) := by decide +kernel
theorem d_Mod_point_29 : decode b_Mod_point 29 = .ok (.ireturn, 1) := by decide +kernel
theorem d_Mod_point_30 : decode b_Mod_point 30 = .ok (.aload_n 0, 1) := by decide +kernel
theorem d_Mod_point_31 : decode b_Mod_point 31 = .ok (.iload_n 1, 1) := by decide +kernel
theorem d_Mod_point_32 : decode b_Mod_point 32 = .ok (.invokevirtual 237, 3) := by decide +kernel
theorem d_Mod_point_35 : decode b_Mod_point 35 = .ok (.aload_n 0, 1) := by decide +kernel
theorem d_Mod_point_36 : decode b_Mod_point 36 = .ok (.getfield 67, 3) := by decide +kernel
theorem d_Mod_point_39 : decode b_Mod_point 39 = .ok (.iload_n 2, 1) := by decide +kernel
theorem d_Mod_point_40 : decode b_Mod_point 40 = .ok (.iaload, 1) := by decide +kernel
theorem d_Mod_point_41 : decode b_Mod_point 41 = .ok (.istore 5, 2) := by decide +kernel
theorem d_Mod_point_43 : decode b_Mod_point 43 = .ok (.iload 5, 2) := by decide +kernel
theorem d_Mod_point_45 : decode b_Mod_point 45 = .ok (.iconst 4, 1) := by decide +kernel
theorem d_Mod_point_46 : decode b_Mod_point 46 = .ok (.iand, 1) := by decide +kernel
theorem d_Mod_point_47 : decode b_Mod_point 47 = .ok (.ifCond .eq 10, 3) := by decide +kernel
theorem d_Mod_point_50 : decode b_Mod_point 50 = .ok (.iload 4, 2) := by decide +kernel
theorem d_Mod_point_52 : decode b_Mod_point 52 = .ok (.iconst 2, 1) := by decide +kernel
theorem d_Mod_point_53 : decode b_Mod_point 53 = .ok (.idiv, 1) := by decide +kernel
theorem d_Mod_point_54 : decode b_Mod_point 54 = .ok (.goto 22, 3) := by decide +kernel
theorem d_Mod_point_57 : decode b_Mod_point 57 = .ok (.iload 5, 2) := by decide +kernel
theorem d_Mod_point_59 : decode b_Mod_point 59 = .ok (.bipush 8, 2) := by decide +kernel
theorem d_Mod_point_61 : decode b_Mod_point 61 = .ok (.iand, 1) := by decide +kernel
theorem d_Mod_point_62 : decode b_Mod_point 62 = .ok (.ifCond .eq 12, 3) := by decide +kernel
theorem d_Mod_point_65 : decode b_Mod_point 65 = .ok (.iconst 3, 1) := by decide +kernel
theorem d_Mod_point_66 : decode b_Mod_point 66 = .ok (.iload 4, 2) := by decide +kernel
theorem d_Mod_point_68 : decode b_Mod_point 68 = .ok (.iconst 2, 1) := by decide +kernel
theorem d_Mod_point_69 : decode b_Mod_point 69 = .ok (.idiv, 1) := by decide +kernel
theorem d_Mod_point_70 : decode b_Mod_point 70 = .ok (.iadd, 1) := by decide +kernel
theorem d_Mod_point_71 : decode b_Mod_point 71 = .ok (.goto 5, 3) := by decide +kernel
theorem d_Mod_point_74 : decode b_Mod_point 74 = .ok (.iload 4, 2) := by decide +kernel
theorem d_Mod_point_76 : decode b_Mod_point 76 = .ok (.istore 6, 2) := by decide +kernel
theorem d_Mod_point_78 : decode b_Mod_point 78 = .ok (.aload_n 0, 1) := by decide +kernel
theorem d_Mod_point_79 : decode b_Mod_point 79 = .ok (.getfield 58, 3) := by decide +kernel
theorem d_Mod_point_82 : decode b_Mod_point 82 = .ok (.iload_n 2, 1) := by decide +kernel
theorem d_Mod_point_83 : decode b_Mod_point 83 = .ok (.iaload, 1) := by decide +kernel
theorem d_Mod_point_84 : decode b_Mod_point 84 = .ok (.istore 7, 2) := by decide +kernel
theorem d_Mod_point_86 : decode b_Mod_point 86 = .ok (.iload 5, 2) := by decide +kernel
theorem d_Mod_point_88 : decode b_Mod_point 88 = .ok (.iconst 1, 1) := by decide +kernel
theorem d_Mod_point_89 : decode b_Mod_point 89 = .ok (.iand, 1) := by decide +kernel
theorem d_Mod_point_90 : decode b_Mod_point 90 = .ok (.ifCond .eq 67, 3) := by decide +kernel
theorem d_Mod_point_93 : decode b_Mod_point 93 = .ok (.iconst 2, 1) := by decide +kernel
theorem d_Mod_point_94 : decode b_Mod_point 94 = .ok (.iload 6, 2) := by decide +kernel
theorem d_Mod_point_96 : decode b_Mod_point 96 = .ok (.iconst 2, 1) := by decide +kernel
theorem d_Mod_point_97 : decode b_Mod_point 97 = .ok (.idiv, 1) := by decide +kernel
theorem d_Mod_point_98 : decode b_Mod_point 98 = .ok (.imul, 1) := by decide +kernel
theorem d_Mod_point_99 : decode b_Mod_point 99 = .ok (.iload_n 3, 1) := by decide +kernel
theorem d_Mod_point_100 : decode b_Mod_point 100 = .ok (.iconst 2, 1) := by decide +kernel
theorem d_Mod_point_101 : decode b_Mod_point 101 = .ok (.idiv, 1) := by decide +kernel
theorem d_Mod_point_102 : decode b_Mod_point 102 = .ok (.iadd, 1) := by decide +kernel
theorem d_Mod_point_103 : decode b_Mod_point 103 = .ok (.istore 9, 2) := by decide +kernel
theorem d_Mod_point_105 : decode b_Mod_point 105 = .ok (.iload 7, 2) := by decide +kernel
theorem d_Mod_point_107 : decode b_Mod_point 107 = .ok (.iload 9, 2) := by decide +kernel
theorem d_Mod_point_109 : decode b_Mod_point 109 = .ok (.iconst 5, 1) := by decide +kernel
theorem d_Mod_point_110 : decode b_Mod_point 110 = .ok (.if_icmp .ne 8, 3) := by decide +kernel
theorem d_Mod_point_113 : decode b_Mod_point 113 = .ok (.bipush 6, 2) := by decide +kernel
theorem d_Mod_point_115 : decode b_Mod_point 115 = .ok (.goto 5, 3) := by decide +kernel
theorem d_Mod_point_118 : decode b_Mod_point 118 = .ok (.iload 9, 2) := by decide +kernel
theorem d_Mod_point_120 : decode b_Mod_point 120 = .ok (.ishr, 1) := by decide +kernel
theorem d_Mod_point_121 : decode b_Mod_point 121 = .ok (.iconst 1, 1) := by decide +kernel
theorem d_Mod_point_122 : decode b_Mod_point 122 = .ok (.iand, 1) := by decide +kernel
theorem d_Mod_point_123 : decode b_Mod_point 123 = .ok (.iconst 1, 1) := by decide +kernel
theorem d_Mod_point_124 : decode b_Mod_point 124 = .ok (.if_icmp .ne 27, 3) := by decide +kernel
theorem d_Mod_point_127 : decode b_Mod_point 127 = .ok (.iload 5, 2) := by decide +kernel
theorem d_Mod_point_129 : decode b_Mod_point 129 = .ok (.iconst 2, 1) := by decide +kernel
theorem d_Mod_point_130 : decode b_Mod_point 130 = .ok (.iand, 1) := by decide +kernel
theorem d_Mod_point_131 : decode b_Mod_point 131 = .ok (.ifCond .eq 16, 3) := by decide +kernel
theorem d_Mod_point_134 : decode b_Mod_point 134 = .ok (.iload_n 3, 1) := by decide +kernel
theorem d_Mod_point_135 : decode b_Mod_point 135 = .ok (.iconst 2, 1) := by decide +kernel
theorem d_Mod_point_136 : decode b_Mod_point 136 = .ok (.irem, 1) := by decide +kernel
theorem d_Mod_point_137 : decode b_Mod_point 137 = .ok (.ifCond .ne 14, 3) := by decide +kernel
theorem d_Mod_point_140 : decode b_Mod_point 140 = .ok (.iload 6, 2) := by decide +kernel
theorem d_Mod_point_142 : decode b_Mod_point 142 = .ok (.iconst 2, 1) := by decide +kernel
theorem d_Mod_point_143 : decode b_Mod_point 143 = .ok (.irem, 1) := by decide +kernel
theorem d_Mod_point_144 : decode b_Mod_point 144 = .ok (.ifCond .ne 7, 3) := by decide +kernel
theorem d_Mod_point_147 : decode b_Mod_point 147 = .ok (.iconst 1, 1) := by decide +kernel
theorem d_Mod_point_148 : decode b_Mod_point 148 = .ok (.goto 4, 3) := by decide +kernel
theorem d_Mod_point_151 : decode b_Mod_point 151 = .ok (.iconst 0, 1) := by decide +kernel
theorem d_Mod_point_152 : decode b_Mod_point 152 = .ok (.istore 8, 2) := by decide +kernel
theorem d_Mod_point_154 : decode b_Mod_point 154 = .ok (.goto 41, 3) := by decide +kernel
theorem d_Mod_point_157 : decode b_Mod_point 157 = .ok (.iload 7, 2) := by decide +kernel
theorem d_Mod_point_159 : decode b_Mod_point 159 = .ok (.bipush 32, 2) := by decide +kernel
theorem d_Mod_point_161 : decode b_Mod_point 161 = .ok (.if_icmp .eq 31, 3) := by decide +kernel
theorem d_Mod_point_164 : decode b_Mod_point 164 = .ok (.iload 7, 2) := by decide +kernel
theorem d_Mod_point_166 : decode b_Mod_point 166 = .ok (.ldc 240, 2) := by decide +kernel
theorem d_Mod_point_168 : decode b_Mod_point 168 = .ok (.imul, 1) := by decide +kernel
theorem d_Mod_point_169 : decode b_Mod_point 169 = .ok (.iload 7, 2) := by decide +kernel
theorem d_Mod_point_171 : decode b_Mod_point 171 = .ok (.bipush 7, 2) := by decide +kernel
theorem d_Mod_point_173 : decode b_Mod_point 173 = .ok (.ishl, 1) := by decide +kernel
theorem d_Mod_point_174 : decode b_Mod_point 174 = .ok (.ixor, 1) := by decide +kernel
theorem d_Mod_point_175 : decode b_Mod_point 175 = .ok (.iload 6, 2) := by decide +kernel
theorem d_Mod_point_177 : decode b_Mod_point 177 = .ok (.iconst 4, 1) := by decide +kernel
theorem d_Mod_point_178 : decode b_Mod_point 178 = .ok (.imul, 1) := by decide +kernel
theorem d_Mod_point_179 : decode b_Mod_point 179 = .ok (.iload_n 3, 1) := by decide +kernel
theorem d_Mod_point_180 : decode b_Mod_point 180 = .ok (.iadd, 1) := by decide +kernel
theorem d_Mod_point_181 : decode b_Mod_point 181 = .ok (.ishr, 1) := by decide +kernel
theorem d_Mod_point_182 : decode b_Mod_point 182 = .ok (.iconst 1, 1) := by decide +kernel
theorem d_Mod_point_183 : decode b_Mod_point 183 = .ok (.iand, 1) := by decide +kernel
theorem d_Mod_point_184 : decode b_Mod_point 184 = .ok (.iconst 1, 1) := by decide +kernel
theorem d_Mod_point_185 : decode b_Mod_point 185 = .ok (.if_icmp .ne 7, 3) := by decide +kernel
theorem d_Mod_point_188 : decode b_Mod_point 188 = .ok (.iconst 1, 1) := by decide +kernel
theorem d_Mod_point_189 : decode b_Mod_point 189 = .ok (.goto 4, 3) := by decide +kernel
theorem d_Mod_point_192 : decode b_Mod_point 192 = .ok (.iconst 0, 1) := by decide +kernel
theorem d_Mod_point_193 : decode b_Mod_point 193 = .ok (.istore 8, 2) := by decide +kernel
theorem d_Mod_point_195 : decode b_Mod_point 195 = .ok (.iload 8, 2) := by decide +kernel
theorem d_Mod_point_197 : decode b_Mod_point 197 = .ok (.ifCond .eq 12, 3) := by decide +kernel
theorem d_Mod_point_200 : decode b_Mod_point 200 = .ok (.aload_n 0, 1) := by decide +kernel
theorem d_Mod_point_201 : decode b_Mod_point 201 = .ok (.getfield 61, 3) := by decide +kernel
theorem d_Mod_point_204 : decode b_Mod_point 204 = .ok (.iload_n 2, 1) := by decide +kernel
theorem d_Mod_point_205 : decode b_Mod_point 205 = .ok (.iaload, 1) := by decide +kernel
theorem d_Mod_point_206 : decode b_Mod_point 206 = .ok (.goto 9, 3) := by decide +kernel
theorem d_Mod_point_209 : decode b_Mod_point 209 = .ok (.aload_n 0, 1) := by decide +kernel
theorem d_Mod_point_210 : decode b_Mod_point 210 = .ok (.getfield 64, 3) := by decide +kernel
theorem d_Mod_point_213 : decode b_Mod_point 213 = .ok (.iload_n 2, 1) := by decide +kernel
theorem d_Mod_point_214 : decode b_Mod_point 214 = .ok (.iaload, 1) := by decide +kernel
theorem d_Mod_point_215 : decode b_Mod_point 215 = .ok (.ireturn, 1) := by decide +kernel
