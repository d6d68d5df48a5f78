theorem d_Mod_feed_0 : decode b_Mod_feed 0 = .ok (.iload_n 3, 1) := by decide +kernel
theorem d_Mod_feed_1 : decode b_Mod_feed 1 = .ok (.iconst 1, 1) := by decide +kernel
theorem d_Mod_feed_2 : decode b_Mod_feed 2 = .ok (.if_icmp .lt 9, 3) := by decide +kernel
theorem d_Mod_feed_5 : decode b_Mod_feed 5 = .ok (.iload_n 3, 1) := by decide +kernel
theorem d_Mod_feed_6 : decode b_Mod_feed 6 = .ok (.bipush 8, 2) := by decide +kernel
theorem d_Mod_feed_8 : decode b_Mod_feed 8 = .ok (.if_icmp .le 5, 3) := by decide +kernel
theorem d_Mod_feed_11 : decode b_Mod_feed 11 = .ok (.iconst (-1), 1) := by decide +kernel
theorem d_Mod_feed_12 : decode b_Mod_feed 12 = .ok (.ireturn, 1) := by decide +kernel
theorem d_Mod_feed_13 : decode b_Mod_feed 13 = .ok (.iload_n 3, 1) := by decide +kernel
theorem d_Mod_feed_14 : decode b_Mod_feed 14 = .ok (.iconst 1, 1) := by decide +kernel
theorem d_Mod_feed_15 : decode b_Mod_feed 15 = .ok (.isub, 1) := by decide +kernel
theorem d_Mod_feed_16 : decode b_Mod_feed 16 = .ok (.istore 4, 2) := by decide +kernel
theorem d_Mod_feed_18 : decode b_Mod_feed 18 = .ok (.iload 4, 2) := by decide +kernel
theorem d_Mod_feed_20 : decode b_Mod_feed 20 = .ok (.ifCond .lt 58, 3) := by decide +kernel
theorem d_Mod_feed_23 : decode b_Mod_feed 23 = .ok (.aload_n 0, 1) := by decide +kernel
theorem d_Mod_feed_24 : decode b_Mod_feed 24 = .ok (.getfield 38, 3) := by decide +kernel
theorem d_Mod_feed_27 : decode b_Mod_feed 27 = .ok (.aload_n 0, 1) := by decide +kernel
theorem d_Mod_feed_28 : decode b_Mod_feed 28 = .ok (.getfield 127, 3) := by decide +kernel
theorem d_Mod_feed_31 : decode b_Mod_feed 31 = .ok (.lload_n 1, 1) := by decide +kernel
theorem d_Mod_feed_32 : decode b_Mod_feed 32 = .ok (.bipush 8, 2) := by decide +kernel
theorem d_Mod_feed_34 : decode b_Mod_feed 34 = .ok (.iload 4, 2) := by decide +kernel
theorem d_Mod_feed_36 : decode b_Mod_feed 36 = .ok (.imul, 1) := by decide +kernel
theorem d_Mod_feed_37 : decode b_Mod_feed 37 = .ok (.lshr, 1) := by decide +kernel
theorem d_Mod_feed_38 : decode b_Mod_feed 38 = .ok (.ldc2_w 130, 3) := by decide +kernel
theorem d_Mod_feed_41 : decode b_Mod_feed 41 = .ok (.land, 1) := by decide +kernel
theorem d_Mod_feed_42 : decode b_Mod_feed 42 = .ok (.l2i, 1) := by decide +kernel
theorem d_Mod_feed_43 : decode b_Mod_feed 43 = .ok (.iastore, 1) := by decide +kernel
theorem d_Mod_feed_44 : decode b_Mod_feed 44 = .ok (.aload_n 0, 1) := by decide +kernel
theorem d_Mod_feed_45 : decode b_Mod_feed 45 = .ok (.dup, 1) := by decide +kernel
theorem d_Mod_feed_46 : decode b_Mod_feed 46 = .ok (.getfield 127, 3) := by decide +kernel
theorem d_Mod_feed_49 : decode b_Mod_feed 49 = .ok (.iconst 1, 1) := by decide +kernel
theorem d_Mod_feed_50 : decode b_Mod_feed 50 = .ok (.iadd, 1) := by decide +kernel
theorem d_Mod_feed_51 : decode b_Mod_feed 51 = .ok (.putfield 127, 3) := by decide +kernel
theorem d_Mod_feed_54 : decode b_Mod_feed 54 = .ok (.aload_n 0, 1) := by decide +kernel
theorem d_Mod_feed_55 : decode b_Mod_feed 55 = .ok (.getfield 127, 3) := by decide +kernel
theorem d_Mod_feed_58 : decode b_Mod_feed 58 = .ok (.bipush 22, 2) := by decide +kernel
theorem d_Mod_feed_60 : decode b_Mod_feed 60 = .ok (.if_icmp .ne 12, 3) := by decide +kernel
theorem d_Mod_feed_63 : decode b_Mod_feed 63 = .ok (.aload_n 0, 1) := by decide +kernel
theorem d_Mod_feed_64 : decode b_Mod_feed 64 = .ok (.iconst 0, 1) := by decide +kernel
theorem d_Mod_feed_65 : decode b_Mod_feed 65 = .ok (.putfield 127, 3) := by decide +kernel
theorem d_Mod_feed_68 : decode b_Mod_feed 68 = .ok (.aload_n 0, 1) := by decide +kernel
theorem d_Mod_feed_69 : decode b_Mod_feed 69 = .ok (.invokevirtual 132, 3) := by decide +kernel
theorem d_Mod_feed_72 : decode b_Mod_feed 72 = .ok (.iinc 4 (-1), 3) := by decide +kernel
theorem d_Mod_feed_75 : decode b_Mod_feed 75 = .ok (.goto (-57), 3) := by decide +kernel
theorem d_Mod_feed_78 : decode b_Mod_feed 78 = .ok (.aload_n 0, 1) := by decide +kernel
theorem d_Mod_feed_79 : decode b_Mod_feed 79 = .ok (.getfield 127, 3) := by decide +kernel
theorem d_Mod_feed_82 : decode b_Mod_feed 82 = .ok (.ireturn, 1) := by decide +kernel
theorem d_Mod_takePacket_0 : decode b_Mod_takePacket 0 = .ok (.aload_n 0, 1) := by decide +kernel
theorem d_Mod_takePacket_1 : decode b_Mod_takePacket 1 = .ok (.getfield 41, 3) := by decide +kernel
theorem d_Mod_takePacket_4 : decode b_Mod_takePacket 4 = .ok (.iconst 0, 1) := by decide +kernel
theorem d_Mod_takePacket_5 : decode b_Mod_takePacket 5 = .ok (.dup2, 1) := by decide +kernel
theorem d_Mod_takePacket_6 : decode b_Mod_takePacket 6 = .ok (.iaload, 1) := by decide +kernel
theorem d_Mod_takePacket_7 : decode b_Mod_takePacket 7 = .ok (.iconst 1, 1) := by decide +kernel
theorem d_Mod_takePacket_8 : decode b_Mod_takePacket 8 = .ok (.iadd, 1) := by decide +kernel
theorem d_Mod_takePacket_9 : decode b_Mod_takePacket 9 = .ok (.iastore, 1) := by decide +kernel
theorem d_Mod_takePacket_10 : decode b_Mod_takePacket 10 = .ok (.aload_n 0, 1) := by decide +kernel
theorem d_Mod_takePacket_11 : decode b_Mod_takePacket 11 = .ok (.aload_n 0, 1) := by decide +kernel
theorem d_Mod_takePacket_12 : decode b_Mod_takePacket 12 = .ok (.getfield 38, 3) := by decide +kernel
theorem d_Mod_takePacket_15 : decode b_Mod_takePacket 15 = .ok (.iconst 0, 1) := by decide +kernel
theorem d_Mod_takePacket_16 : decode b_Mod_takePacket 16 = .ok (.iaload, 1) := by decide +kernel
theorem d_Mod_takePacket_17 : decode b_Mod_takePacket 17 = .ok (.invokevirtual 90, 3) := by decide +kernel
theorem d_Mod_takePacket_20 : decode b_Mod_takePacket 20 = .ok (.istore_n 1, 1) := by decide +kernel
theorem d_Mod_takePacket_21 : decode b_Mod_takePacket 21 = .ok (.iload_n 1, 1) := by decide +kernel
theorem d_Mod_takePacket_22 : decode b_Mod_takePacket 22 = .ok (.ifCond .ge 7, 3) := by decide +kernel
theorem d_Mod_takePacket_25 : decode b_Mod_takePacket 25 = .ok (.iconst (-1), 1) := by decide +kernel
theorem d_Mod_takePacket_26 : decode b_Mod_takePacket 26 = .ok (.goto 13, 3) := by decide +kernel
theorem d_Mod_takePacket_29 : decode b_Mod_takePacket 29 = .ok (.aload_n 0, 1) := by decide +kernel
theorem d_Mod_takePacket_30 : decode b_Mod_takePacket 30 = .ok (.aload_n 0, 1) := by decide +kernel
theorem d_Mod_takePacket_31 : decode b_Mod_takePacket 31 = .ok (.getfield 38, 3) := by decide +kernel
theorem d_Mod_takePacket_34 : decode b_Mod_takePacket 34 = .ok (.iconst 1, 1) := by decide +kernel
theorem d_Mod_takePacket_35 : decode b_Mod_takePacket 35 = .ok (.iaload, 1) := by decide +kernel
theorem d_Mod_takePacket_36 : decode b_Mod_takePacket 36 = .ok (.invokevirtual 90, 3) := by decide +kernel
theorem d_Mod_takePacket_39 : decode b_Mod_takePacket 39 = .ok (.istore_n 2, 1) := by decide +kernel
theorem d_Mod_takePacket_40 : decode b_Mod_takePacket 40 = .ok (.iload_n 2, 1) := by decide +kernel
theorem d_Mod_takePacket_41 : decode b_Mod_takePacket 41 = .ok (.ifCond .ge 8, 3) := by decide +kernel
theorem d_Mod_takePacket_44 : decode b_Mod_takePacket 44 = .ok (.aload_n 0, 1) := by decide +kernel
theorem d_Mod_takePacket_45 : decode b_Mod_takePacket 45 = .ok (.invokevirtual 93, 3) := by decide +kernel
theorem d_Mod_takePacket_48 : decode b_Mod_takePacket 48 = .ok (.return_, 1) := by decide +kernel
theorem d_Mod_takePacket_49 : decode b_Mod_takePacket 49 = .ok (.iload_n 1, 1) := by decide +kernel
theorem d_Mod_takePacket_50 : decode b_Mod_takePacket 50 = .ok (.bipush 8, 2) := by decide +kernel
theorem d_Mod_takePacket_52 : decode b_Mod_takePacket 52 = .ok (.irem, 1) := by decide +kernel
theorem d_Mod_takePacket_53 : decode b_Mod_takePacket 53 = .ok (.istore_n 3, 1) := by decide +kernel
theorem d_Mod_takePacket_54 : decode b_Mod_takePacket 54 = .ok (.iload_n 1, 1) := by decide +kernel
theorem d_Mod_takePacket_55 : decode b_Mod_takePacket 55 = .ok (.bipush 8, 2) := by decide +kernel
theorem d_Mod_takePacket_57 : decode b_Mod_takePacket 57 = .ok (.idiv, 1) := by decide +kernel
theorem d_Mod_takePacket_58 : decode b_Mod_takePacket 58 = .ok (.iconst 2, 1) := by decide +kernel
theorem d_Mod_takePacket_59 : decode b_Mod_takePacket 59 = .ok (.iload_n 2, 1) := by decide +kernel
theorem d_Mod_takePacket_60 : decode b_Mod_takePacket 60 = .ok (.imul, 1) := by decide +kernel
theorem d_Mod_takePacket_61 : decode b_Mod_takePacket 61 = .ok (.iadd, 1) := by decide +kernel
theorem d_Mod_takePacket_62 : decode b_Mod_takePacket 62 = .ok (.istore 4, 2) := by decide +kernel
theorem d_Mod_takePacket_64 : decode b_Mod_takePacket 64 = .ok (.iload 4, 2) := by decide +kernel
theorem d_Mod_takePacket_66 : decode b_Mod_takePacket 66 = .ok (.ifCond .ne 11, 3) := by decide +kernel
theorem d_Mod_takePacket_69 : decode b_Mod_takePacket 69 = .ok (.aload_n 0, 1) := by decide +kernel
theorem d_Mod_takePacket_70 : decode b_Mod_takePacket 70 = .ok (.iload_n 3, 1) := by decide +kernel
theorem d_Mod_takePacket_71 : decode b_Mod_takePacket 71 = .ok (.invokevirtual 96, 3) := by decide +kernel
theorem d_Mod_takePacket_74 : decode b_Mod_takePacket 74 = .ok (.goto 146, 3) := by decide +kernel
theorem d_Mod_takePacket_77 : decode b_Mod_takePacket 77 = .ok (.aload_n 0, 1) := by decide +kernel
theorem d_Mod_takePacket_78 : decode b_Mod_takePacket 78 = .ok (.getfield 7, 3) := by decide +kernel
theorem d_Mod_takePacket_81 : decode b_Mod_takePacket 81 = .ok (.iload_n 3, 1) := by decide +kernel
theorem d_Mod_takePacket_82 : decode b_Mod_takePacket 82 = .ok (.baload, 1) := by decide +kernel
theorem d_Mod_takePacket_83 : decode b_Mod_takePacket 83 = .ok (.ifCond .eq 92, 3) := by decide +kernel
theorem d_Mod_takePacket_86 : decode b_Mod_takePacket 86 = .ok (.iload 4, 2) := by decide +kernel
theorem d_Mod_takePacket_88 : decode b_Mod_takePacket 88 = .ok (.bipush 8, 2) := by decide +kernel
theorem d_Mod_takePacket_90 : decode b_Mod_takePacket 90 = .ok (.if_icmp .ge 85, 3) := by decide +kernel
theorem d_Mod_takePacket_93 : decode b_Mod_takePacket 93 = .ok (.iconst 0, 1) := by decide +kernel
theorem d_Mod_takePacket_94 : decode b_Mod_takePacket 94 = .ok (.istore 5, 2) := by decide +kernel
theorem d_Mod_takePacket_96 : decode b_Mod_takePacket 96 = .ok (.iload 5, 2) := by decide +kernel
theorem d_Mod_takePacket_98 : decode b_Mod_takePacket 98 = .ok (.bipush 20, 2) := by decide +kernel
theorem d_Mod_takePacket_100 : decode b_Mod_takePacket 100 = .ok (.if_icmp .ge 72, 3) := by decide +kernel
theorem d_Mod_takePacket_103 : decode b_Mod_takePacket 103 = .ok (.aload_n 0, 1) := by decide +kernel
theorem d_Mod_takePacket_104 : decode b_Mod_takePacket 104 = .ok (.aload_n 0, 1) := by decide +kernel
theorem d_Mod_takePacket_105 : decode b_Mod_takePacket 105 = .ok (.getfield 38, 3) := by decide +kernel
theorem d_Mod_takePacket_108 : decode b_Mod_takePacket 108 = .ok (.iconst 2, 1) := by decide +kernel
theorem d_Mod_takePacket_109 : decode b_Mod_takePacket 109 = .ok (.iload 5, 2) := by decide +kernel
theorem d_Mod_takePacket_111 : decode b_Mod_takePacket 111 = .ok (.iadd, 1) := by decide +kernel
theorem d_Mod_takePacket_112 : decode b_Mod_takePacket 112 = .ok (.iaload, 1) := by decide +kernel
theorem d_Mod_takePacket_113 : decode b_Mod_takePacket 113 = .ok (.invokevirtual 100, 3) := by decide +kernel
theorem d_Mod_takePacket_116 : decode b_Mod_takePacket 116 = .ok (.istore 6, 2) := by decide +kernel
theorem d_Mod_takePacket_118 : decode b_Mod_takePacket 118 = .ok (.aload_n 0, 1) := by decide +kernel
theorem d_Mod_takePacket_119 : decode b_Mod_takePacket 119 = .ok (.getfield 29, 3) := by decide +kernel
theorem d_Mod_takePacket_122 : decode b_Mod_takePacket 122 = .ok (.sipush 160, 3) := by decide +kernel
theorem d_Mod_takePacket_125 : decode b_Mod_takePacket 125 = .ok (.iload_n 3, 1) := by decide +kernel
theorem d_Mod_takePacket_126 : decode b_Mod_takePacket 126 = .ok (.imul, 1) := by decide +kernel
theorem d_Mod_takePacket_127 : decode b_Mod_takePacket 127 = .ok (.bipush 20, 2) := by decide +kernel
theorem d_Mod_takePacket_129 : decode b_Mod_takePacket 129 = .ok (.iload 4, 2) := by decide +kernel
theorem d_Mod_takePacket_131 : decode b_Mod_takePacket 131 = .ok (.imul, 1) := by decide +kernel
theorem d_Mod_takePacket_132 : decode b_Mod_takePacket 132 = .ok (.iadd, 1) := by decide +kernel
theorem d_Mod_takePacket_133 : decode b_Mod_takePacket 133 = .ok (.iload 5, 2) := by decide +kernel
theorem d_Mod_takePacket_135 : decode b_Mod_takePacket 135 = .ok (.iadd, 1) := by decide +kernel
theorem d_Mod_takePacket_136 : decode b_Mod_takePacket 136 = .ok (.iload 6, 2) := by decide +kernel
theorem d_Mod_takePacket_138 : decode b_Mod_takePacket 138 = .ok (.ifCond .ge 25, 3) := by decide +kernel
theorem d_Mod_takePacket_141 : decode b_Mod_takePacket 141 = .ok (.aload_n 0, 1) := by decide +kernel
theorem d_Mod_takePacket_142 : decode b_Mod_takePacket 142 = .ok (.getfield 29, 3) := by decide +kernel
theorem d_Mod_takePacket_145 : decode b_Mod_takePacket 145 = .ok (.sipush 160, 3) := by decide +kernel
theorem d_Mod_takePacket_148 : decode b_Mod_takePacket 148 = .ok (.iload_n 3, 1) := by decide +kernel
theorem d_Mod_takePacket_149 : decode b_Mod_takePacket 149 = .ok (.imul, 1) := by decide +kernel
theorem d_Mod_takePacket_150 : decode b_Mod_takePacket 150 = .ok (.bipush 20, 2) := by decide +kernel
theorem d_Mod_takePacket_152 : decode b_Mod_takePacket 152 = .ok (.iload 4, 2) := by decide +kernel
theorem d_Mod_takePacket_154 : decode b_Mod_takePacket 154 = .ok (.imul, 1) := by decide +kernel
theorem d_Mod_takePacket_155 : decode b_Mod_takePacket 155 = .ok (.iadd, 1) := by decide +kernel
theorem d_Mod_takePacket_156 : decode b_Mod_takePacket 156 = .ok (.iload 5, 2) := by decide +kernel
theorem d_Mod_takePacket_158 : decode b_Mod_takePacket 158 = .ok (.iadd, 1) := by decide +kernel
theorem d_Mod_takePacket_159 : decode b_Mod_takePacket 159 = .ok (.iaload, 1) := by decide +kernel
theorem d_Mod_takePacket_160 : decode b_Mod_takePacket 160 = .ok (.goto 5, 3) := by decide +kernel
theorem d_Mod_takePacket_163 : decode b_Mod_takePacket 163 = .ok (.iload 6, 2) := by decide +kernel
theorem d_Mod_takePacket_165 : decode b_Mod_takePacket 165 = .ok (.iastore, 1) := by decide +kernel
theorem d_Mod_takePacket_166 : decode b_Mod_takePacket 166 = .ok (.iinc 5 1, 3) := by decide +kernel
theorem d_Mod_takePacket_169 : decode b_Mod_takePacket 169 = .ok (.goto (-73), 3) := by decide +kernel
theorem d_Mod_takePacket_172 : decode b_Mod_takePacket 172 = .ok (.goto 48, 3) := by decide +kernel
theorem d_Mod_takePacket_175 : decode b_Mod_takePacket 175 = .ok (.aload_n 0, 1) := by decide +kernel
theorem d_Mod_takePacket_176 : decode b_Mod_takePacket 176 = .ok (.getfield 7, 3) := by decide +kernel
theorem d_Mod_takePacket_179 : decode b_Mod_takePacket 179 = .ok (.iload_n 3, 1) := by decide +kernel
theorem d_Mod_takePacket_180 : decode b_Mod_takePacket 180 = .ok (.baload, 1) := by decide +kernel
theorem d_Mod_takePacket_181 : decode b_Mod_takePacket 181 = .ok (.ifCond .eq 18, 3) := by decide +kernel
theorem d_Mod_takePacket_184 : decode b_Mod_takePacket 184 = .ok (.iload 4, 2) := by decide +kernel
theorem d_Mod_takePacket_186 : decode b_Mod_takePacket 186 = .ok (.bipush 26, 2) := by decide +kernel
theorem d_Mod_takePacket_188 : decode b_Mod_takePacket 188 = .ok (.if_icmp .ne 11, 3) := by decide +kernel
theorem d_Mod_takePacket_191 : decode b_Mod_takePacket 191 = .ok (.aload_n 0, 1) := by decide +kernel
theorem d_Mod_takePacket_192 : decode b_Mod_takePacket 192 = .ok (.iload_n 3, 1) := by decide +kernel
theorem d_Mod_takePacket_193 : decode b_Mod_takePacket 193 = .ok (.invokevirtual 103, 3) := by decide +kernel
theorem d_Mod_takePacket_196 : decode b_Mod_takePacket 196 = .ok (.goto 24, 3) := by decide +kernel
theorem d_Mod_takePacket_199 : decode b_Mod_takePacket 199 = .ok (.aload_n 0, 1) := by decide +kernel
theorem d_Mod_takePacket_200 : decode b_Mod_takePacket 200 = .ok (.getfield 7, 3) := by decide +kernel
theorem d_Mod_takePacket_203 : decode b_Mod_takePacket 203 = .ok (.iload_n 3, 1) := by decide +kernel
theorem d_Mod_takePacket_204 : decode b_Mod_takePacket 204 = .ok (.baload, 1) := by decide +kernel
theorem d_Mod_takePacket_205 : decode b_Mod_takePacket 205 = .ok (.ifCond .eq 15, 3) := by decide +kernel
theorem d_Mod_takePacket_208 : decode b_Mod_takePacket 208 = .ok (.iload 4, 2) := by decide +kernel
theorem d_Mod_takePacket_210 : decode b_Mod_takePacket 210 = .ok (.bipush 27, 2) := by decide +kernel
theorem d_Mod_takePacket_212 : decode b_Mod_takePacket 212 = .ok (.if_icmp .ne 8, 3) := by decide +kernel
theorem d_Mod_takePacket_215 : decode b_Mod_takePacket 215 = .ok (.aload_n 0, 1) := by decide +kernel
theorem d_Mod_takePacket_216 : decode b_Mod_takePacket 216 = .ok (.iload_n 3, 1) := by decide +kernel
theorem d_Mod_takePacket_217 : decode b_Mod_takePacket 217 = .ok (.invokevirtual 106, 3) := by decide +kernel
theorem d_Mod_takePacket_220 : decode b_Mod_takePacket 220 = .ok (.return_, 1) := by decide +kernel
theorem d_Mod_nibble_0 : decode b_Mod_nibble 0 = .ok (.iconst (-1), 1) := by decide +kernel
theorem d_Mod_nibble_1 : decode b_Mod_nibble 1 = .ok (.istore_n 2, 1) := by decide +kernel
theorem d_Mod_nibble_2 : decode b_Mod_nibble 2 = .ok (.iconst 0, 1) := by decide +kernel
theorem d_Mod_nibble_3 : decode b_Mod_nibble 3 = .ok (.istore_n 3, 1) := by decide +kernel
theorem d_Mod_nibble_4 : decode b_Mod_nibble 4 = .ok (.iconst 0, 1) := by decide +kernel
theorem d_Mod_nibble_5 : decode b_Mod_nibble 5 = .ok (.istore 4, 2) := by decide +kernel
theorem d_Mod_nibble_7 : decode b_Mod_nibble 7 = .ok (.iload 4, 2) := by decide +kernel
theorem d_Mod_nibble_9 : decode b_Mod_nibble 9 = .ok (.bipush 16, 2) := by decide +kernel
theorem d_Mod_nibble_11 : decode b_Mod_nibble 11 = .ok (.if_icmp .ge 70, 3) := by decide +kernel
theorem d_Mod_nibble_14 : decode b_Mod_nibble 14 = .ok (.iload 4, 2) := by decide +kernel
theorem d_Mod_nibble_16 : decode b_Mod_nibble 16 = .ok (.invokestatic 77, 3) := by decide +kernel
theorem d_Mod_nibble_19 : decode b_Mod_nibble 19 = .ok (.istore 5, 2) := by decide +kernel
theorem d_Mod_nibble_21 : decode b_Mod_nibble 21 = .ok (.iconst 0, 1) := by decide +kernel
theorem d_Mod_nibble_22 : decode b_Mod_nibble 22 = .ok (.istore 6, 2) := by decide +kernel
theorem d_Mod_nibble_24 : decode b_Mod_nibble 24 = .ok (.iconst 0, 1) := by decide +kernel
theorem d_Mod_nibble_25 : decode b_Mod_nibble 25 = .ok (.istore 7, 2) := by decide +kernel
theorem d_Mod_nibble_27 : decode b_Mod_nibble 27 = .ok (.iload 7, 2) := by decide +kernel
theorem d_Mod_nibble_29 : decode b_Mod_nibble 29 = .ok (.bipush 8, 2) := by decide +kernel
theorem d_Mod_nibble_31 : decode b_Mod_nibble 31 = .ok (.if_icmp .ge 23, 3) := by decide +kernel
theorem d_Mod_nibble_34 : decode b_Mod_nibble 34 = .ok (.iload 6, 2) := by decide +kernel
theorem d_Mod_nibble_36 : decode b_Mod_nibble 36 = .ok (.iload 5, 2) := by decide +kernel
theorem d_Mod_nibble_38 : decode b_Mod_nibble 38 = .ok (.iload_n 1, 1) := by decide +kernel
theorem d_Mod_nibble_39 : decode b_Mod_nibble 39 = .ok (.ixor, 1) := by decide +kernel
theorem d_Mod_nibble_40 : decode b_Mod_nibble 40 = .ok (.iload 7, 2) := by decide +kernel
theorem d_Mod_nibble_42 : decode b_Mod_nibble 42 = .ok (.ishr, 1) := by decide +kernel
theorem d_Mod_nibble_43 : decode b_Mod_nibble 43 = .ok (.iconst 1, 1) := by decide +kernel
theorem d_Mod_nibble_44 : decode b_Mod_nibble 44 = .ok (.iand, 1) := by decide +kernel
theorem d_Mod_nibble_45 : decode b_Mod_nibble 45 = .ok (.iadd, 1) := by decide +kernel
theorem d_Mod_nibble_46 : decode b_Mod_nibble 46 = .ok (.istore 6, 2) := by decide +kernel
theorem d_Mod_nibble_48 : decode b_Mod_nibble 48 = .ok (.iinc 7 1, 3) := by decide +kernel
theorem d_Mod_nibble_51 : decode b_Mod_nibble 51 = .ok (.goto (-24), 3) := by decide +kernel
theorem d_Mod_nibble_54 : decode b_Mod_nibble 54 = .ok (.iload 6, 2) := by decide +kernel
theorem d_Mod_nibble_56 : decode b_Mod_nibble 56 = .ok (.iconst 2, 1) := by decide +kernel
theorem d_Mod_nibble_57 : decode b_Mod_nibble 57 = .ok (.if_icmp .ge 18, 3) := by decide +kernel
theorem d_Mod_nibble_60 : decode b_Mod_nibble 60 = .ok (.iload 4, 2) := by decide +kernel
theorem d_Mod_nibble_62 : decode b_Mod_nibble 62 = .ok (.istore_n 2, 1) := by decide +kernel
theorem d_Mod_nibble_63 : decode b_Mod_nibble 63 = .ok (.iload 6, 2) := by decide +kernel
theorem d_Mod_nibble_65 : decode b_Mod_nibble 65 = .ok (.iconst 1, 1) := by decide +kernel
theorem d_Mod_nibble_66 : decode b_Mod_nibble 66 = .ok (.if_icmp .ne 7, 3) := by decide +kernel
theorem d_Mod_nibble_69 : decode b_Mod_nibble 69 = .ok (.iconst 1, 1) := by decide +kernel
theorem d_Mod_nibble_70 : decode b_Mod_nibble 70 = .ok (.goto 4, 3) := by decide +kernel
theorem d_Mod_nibble_73 : decode b_Mod_nibble 73 = .ok (.iconst 0, 1) := by decide +kernel
theorem d_Mod_nibble_74 : decode b_Mod_nibble 74 = .ok (.istore_n 3, 1) := by decide +kernel
theorem d_Mod_nibble_75 : decode b_Mod_nibble 75 = .ok (.iinc 4 1, 3) := by decide +kernel
theorem d_Mod_nibble_78 : decode b_Mod_nibble 78 = .ok (.goto (-71), 3) := by decide +kernel
theorem d_Mod_nibble_81 : decode b_Mod_nibble 81 = .ok (.aload_n 0, 1) := by decide +kernel
theorem d_Mod_nibble_82 : decode b_Mod_nibble 82 = .ok (.getfield 41, 3) := by decide +kernel
theorem d_Mod_nibble_85 : decode b_Mod_nibble 85 = .ok (.iconst 2, 1) := by decide +kernel
theorem d_Mod_nibble_86 : decode b_Mod_nibble 86 = .ok (.iload_n 3, 1) := by decide +kernel
theorem d_Mod_nibble_87 : decode b_Mod_nibble 87 = .ok (.ifCond .eq 14, 3) := by decide +kernel
theorem d_Mod_nibble_90 : decode b_Mod_nibble 90 = .ok (.aload_n 0, 1) := by decide +kernel
theorem d_Mod_nibble_91 : decode b_Mod_nibble 91 = .ok (.getfield 41, 3) := by decide +kernel
theorem d_Mod_nibble_94 : decode b_Mod_nibble 94 = .ok (.iconst 2, 1) := by decide +kernel
theorem d_Mod_nibble_95 : decode b_Mod_nibble 95 = .ok (.iaload, 1) := by decide +kernel
theorem d_Mod_nibble_96 : decode b_Mod_nibble 96 = .ok (.iconst 1, 1) := by decide +kernel
theorem d_Mod_nibble_97 : decode b_Mod_nibble 97 = .ok (.iadd, 1) := by decide +kernel
theorem d_Mod_nibble_98 : decode b_Mod_nibble 98 = .ok (.goto 9, 3) := by decide +kernel
theorem d_Mod_nibble_101 : decode b_Mod_nibble 101 = .ok (.aload_n 0, 1) := by decide +kernel
theorem d_Mod_nibble_102 : decode b_Mod_nibble 102 = .ok (.getfield 41, 3) := by decide +kernel
theorem d_Mod_nibble_105 : decode b_Mod_nibble 105 = .ok (.iconst 2, 1) := by decide +kernel
theorem d_Mod_nibble_106 : decode b_Mod_nibble 106 = .ok (.iaload, 1) := by decide +kernel
theorem d_Mod_nibble_107 : decode b_Mod_nibble 107 = .ok (.iastore, 1) := by decide +kernel
theorem d_Mod_nibble_108 : decode b_Mod_nibble 108 = .ok (.aload_n 0, 1) := by decide +kernel
theorem d_Mod_nibble_109 : decode b_Mod_nibble 109 = .ok (.getfield 41, 3) := by decide +kernel
theorem d_Mod_nibble_112 : decode b_Mod_nibble 112 = .ok (.iconst 3, 1) := by decide +kernel
theorem d_Mod_nibble_113 : decode b_Mod_nibble 113 = .ok (.iload_n 2, 1) := by decide +kernel
theorem d_Mod_nibble_114 : decode b_Mod_nibble 114 = .ok (.ifCond .ge 14, 3) := by decide +kernel
theorem d_Mod_nibble_117 : decode b_Mod_nibble 117 = .ok (.aload_n 0, 1) := by decide +kernel
theorem d_Mod_nibble_118 : decode b_Mod_nibble 118 = .ok (.getfield 41, 3) := by decide +kernel
theorem d_Mod_nibble_121 : decode b_Mod_nibble 121 = .ok (.iconst 3, 1) := by decide +kernel
theorem d_Mod_nibble_122 : decode b_Mod_nibble 122 = .ok (.iaload, 1) := by decide +kernel
theorem d_Mod_nibble_123 : decode b_Mod_nibble 123 = .ok (.iconst 1, 1) := by decide +kernel
theorem d_Mod_nibble_124 : decode b_Mod_nibble 124 = .ok (.iadd, 1) := by decide +kernel
theorem d_Mod_nibble_125 : decode b_Mod_nibble 125 = .ok (.goto 9, 3) := by decide +kernel
theorem d_Mod_nibble_128 : decode b_Mod_nibble 128 = .ok (.aload_n 0, 1) := by decide +kernel
theorem d_Mod_nibble_129 : decode b_Mod_nibble 129 = .ok (.getfield 41, 3) := by decide +kernel
theorem d_Mod_nibble_132 : decode b_Mod_nibble 132 = .ok (.iconst 3, 1) := by decide +kernel
theorem d_Mod_nibble_133 : decode b_Mod_nibble 133 = .ok (.iaload, 1) := by decide +kernel
theorem d_Mod_nibble_134 : decode b_Mod_nibble 134 = .ok (.iastore, 1) := by decide +kernel
theorem d_Mod_nibble_135 : decode b_Mod_nibble 135 = .ok (.iload_n 2, 1) := by decide +kernel
theorem d_Mod_nibble_136 : decode b_Mod_nibble 136 = .ok (.ireturn, 1) := by decide +kernel
theorem d_Mod_codeOf_0 : decode b_Mod_codeOf 0 = .ok (.iload_n 0, 1) := by decide +kernel
theorem d_Mod_codeOf_1 : decode b_Mod_codeOf 1 = .ok (.iconst 1, 1) := by decide +kernel
theorem d_Mod_codeOf_2 : decode b_Mod_codeOf 2 = .ok (.iand, 1) := by decide +kernel
theorem d_Mod_codeOf_3 : decode b_Mod_codeOf 3 = .ok (.istore_n 1, 1) := by decide +kernel
theorem d_Mod_codeOf_4 : decode b_Mod_codeOf 4 = .ok (.iload_n 0, 1) := by decide +kernel
theorem d_Mod_codeOf_5 : decode b_Mod_codeOf 5 = .ok (.iconst 1, 1) := by decide +kernel
theorem d_Mod_codeOf_6 : decode b_Mod_codeOf 6 = .ok (.ishr, 1) := by decide +kernel
theorem d_Mod_codeOf_7 : decode b_Mod_codeOf 7 = .ok (.iconst 1, 1) := by decide +kernel
theorem d_Mod_codeOf_8 : decode b_Mod_codeOf 8 = .ok (.iand, 1) := by decide +kernel
theorem d_Mod_codeOf_9 : decode b_Mod_codeOf 9 = .ok (.istore_n 2, 1) := by decide +kernel
theorem d_Mod_codeOf_10 : decode b_Mod_codeOf 10 = .ok (.iload_n 0, 1) := by decide +kernel
theorem d_Mod_codeOf_11 : decode b_Mod_codeOf 11 = .ok (.iconst 2, 1) := by decide +kernel
theorem d_Mod_codeOf_12 : decode b_Mod_codeOf 12 = .ok (.ishr, 1) := by decide +kernel
theorem d_Mod_codeOf_13 : decode b_Mod_codeOf 13 = .ok (.iconst 1, 1) := by decide +kernel
theorem d_Mod_codeOf_14 : decode b_Mod_codeOf 14 = .ok (.iand, 1) := by decide +kernel
theorem d_Mod_codeOf_15 : decode b_Mod_codeOf 15 = .ok (.istore_n 3, 1) := by decide +kernel
theorem d_Mod_codeOf_16 : decode b_Mod_codeOf 16 = .ok (.iload_n 0, 1) := by decide +kernel
theorem d_Mod_codeOf_17 : decode b_Mod_codeOf 17 = .ok (.iconst 3, 1) := by decide +kernel
theorem d_Mod_codeOf_18 : decode b_Mod_codeOf 18 = .ok (.ishr, 1) := by decide +kernel
theorem d_Mod_codeOf_19 : decode b_Mod_codeOf 19 = .ok (.istore 4, 2) := by decide +kernel
theorem d_Mod_codeOf_21 : decode b_Mod_codeOf 21 = .ok (.iconst 1, 1) := by decide +kernel
theorem d_Mod_codeOf_22 : decode b_Mod_codeOf 22 = .ok (.iload_n 1, 1) := by decide +kernel
theorem d_Mod_codeOf_23 : decode b_Mod_codeOf 23 = .ok (.iadd, 1) := by decide +kernel
theorem d_Mod_codeOf_24 : decode b_Mod_codeOf 24 = .ok (.iload_n 3, 1) := by decide +kernel
theorem d_Mod_codeOf_25 : decode b_Mod_codeOf 25 = .ok (.iadd, 1) := by decide +kernel
theorem d_Mod_codeOf_26 : decode b_Mod_codeOf 26 = .ok (.iload 4, 2) := by decide +kernel
theorem d_Mod_codeOf_28 : decode b_Mod_codeOf 28 = .ok (.iadd, 1) := by decide +kernel
theorem d_Mod_codeOf_29 : decode b_Mod_codeOf 29 = .ok (.iconst 2, 1) := by decide +kernel
theorem d_Mod_codeOf_30 : decode b_Mod_codeOf 30 = .ok (.irem, 1) := by decide +kernel
theorem d_Mod_codeOf_31 : decode b_Mod_codeOf 31 = .ok (.iconst 2, 1) := by decide +kernel
theorem d_Mod_codeOf_32 : decode b_Mod_codeOf 32 = .ok (.iload_n 1, 1) := by decide +kernel
theorem d_Mod_codeOf_33 : decode b_Mod_codeOf 33 = .ok (.imul, 1) := by decide +kernel
theorem d_Mod_codeOf_34 : decode b_Mod_codeOf 34 = .ok (.iadd, 1) := by decide +kernel
theorem d_Mod_codeOf_35 : decode b_Mod_codeOf 35 = .ok (.iconst 4, 1) := by decide +kernel
theorem d_Mod_codeOf_36 : decode b_Mod_codeOf 36 = .ok (.iconst 1, 1) := by decide +kernel
theorem d_Mod_codeOf_37 : decode b_Mod_codeOf 37 = .ok (.iload_n 1, 1) := by decide +kernel
theorem d_Mod_codeOf_38 : decode b_Mod_codeOf 38 = .ok (.iadd, 1) := by decide +kernel
theorem d_Mod_codeOf_39 : decode b_Mod_codeOf 39 = .ok (.iload_n 2, 1) := by decide +kernel
theorem d_Mod_codeOf_40 : decode b_Mod_codeOf 40 = .ok (.iadd, 1) := by decide +kernel
theorem d_Mod_codeOf_41 : decode b_Mod_codeOf 41 = .ok (.iload 4, 2) := by decide +kernel
theorem d_Mod_codeOf_43 : decode b_Mod_codeOf 43 = .ok (.iadd, 1) := by decide +kernel
theorem d_Mod_codeOf_44 : decode b_Mod_codeOf 44 = .ok (.iconst 2, 1) := by decide +kernel
theorem d_Mod_codeOf_45 : decode b_Mod_codeOf 45 = .ok (.irem, 1) := by decide +kernel
theorem d_Mod_codeOf_46 : decode b_Mod_codeOf 46 = .ok (.imul, 1) := by decide +kernel
theorem d_Mod_codeOf_47 : decode b_Mod_codeOf 47 = .ok (.iadd, 1) := by decide +kernel
theorem d_Mod_codeOf_48 : decode b_Mod_codeOf 48 = .ok (.bipush 8, 2) := by decide +kernel
theorem d_Mod_codeOf_50 : decode b_Mod_codeOf 50 = .ok (.iload_n 2, 1) := by decide +kernel
theorem d_Mod_codeOf_51 : decode b_Mod_codeOf 51 = .ok (.imul, 1) := by decide +kernel
theorem d_Mod_codeOf_52 : decode b_Mod_codeOf 52 = .ok (.iadd, 1) := by decide +kernel
theorem d_Mod_codeOf_53 : decode b_Mod_codeOf 53 = .ok (.bipush 16, 2) := by decide +kernel
theorem d_Mod_codeOf_55 : decode b_Mod_codeOf 55 = .ok (.iconst 1, 1) := by decide +kernel
theorem d_Mod_codeOf_56 : decode b_Mod_codeOf 56 = .ok (.iload_n 1, 1) := by decide +kernel
theorem d_Mod_codeOf_57 : decode b_Mod_codeOf 57 = .ok (.iadd, 1) := by decide +kernel
theorem d_Mod_codeOf_58 : decode b_Mod_codeOf 58 = .ok (.iload_n 2, 1) := by decide +kernel
theorem d_Mod_codeOf_59 : decode b_Mod_codeOf 59 = .ok (.iadd, 1) := by decide +kernel
theorem d_Mod_codeOf_60 : decode b_Mod_codeOf 60 = .ok (.iload_n 3, 1) := by decide +kernel
theorem d_Mod_codeOf_61 : decode b_Mod_codeOf 61 = .ok (.iadd, 1) := by decide +kernel
theorem d_Mod_codeOf_62 : decode b_Mod_codeOf 62 = .ok (.iconst 2, 1) := by decide +kernel
theorem d_Mod_codeOf_63 : decode b_Mod_codeOf 63 = .ok (.irem, 1) := by decide +kernel
theorem d_Mod_codeOf_64 : decode b_Mod_codeOf 64 = .ok (.imul, 1) := by decide +kernel
theorem d_Mod_codeOf_65 : decode b_Mod_codeOf 65 = .ok (.iadd, 1) := by decide +kernel
theorem d_Mod_codeOf_66 : decode b_Mod_codeOf 66 = .ok (.bipush 32, 2) := by decide +kernel
theorem d_Mod_codeOf_68 : decode b_Mod_codeOf 68 = .ok (.iload_n 3, 1) := by decide +kernel
theorem d_Mod_codeOf_69 : decode b_Mod_codeOf 69 = .ok (.imul, 1) := by decide +kernel
theorem d_Mod_codeOf_70 : decode b_Mod_codeOf 70 = .ok (.iadd, 1) := by decide +kernel
theorem d_Mod_codeOf_71 : decode b_Mod_codeOf 71 = .ok (.sipush 128, 3) := by decide +kernel
theorem d_Mod_codeOf_74 : decode b_Mod_codeOf 74 = .ok (.iload 4, 2) := by decide +kernel
theorem d_Mod_codeOf_76 : decode b_Mod_codeOf 76 = .ok (.imul, 1) := by decide +kernel
theorem d_Mod_codeOf_77 : decode b_Mod_codeOf 77 = .ok (.iadd, 1) := by decide +kernel
theorem d_Mod_codeOf_78 : decode b_Mod_codeOf 78 = .ok (.istore 5, 2) := by decide +kernel
theorem d_Mod_codeOf_80 : decode b_Mod_codeOf 80 = .ok (.iload 5, 2) := by decide +kernel
theorem d_Mod_codeOf_82 : decode b_Mod_codeOf 82 = .ok (.invokestatic 73, 3) := by decide +kernel
theorem d_Mod_codeOf_85 : decode b_Mod_codeOf 85 = .ok (.iconst 1, 1) := by decide +kernel
theorem d_Mod_codeOf_86 : decode b_Mod_codeOf 86 = .ok (.if_icmp .ne 8, 3) := by decide +kernel
theorem d_Mod_codeOf_89 : decode b_Mod_codeOf 89 = .ok (.iload 5, 2) := by decide +kernel
theorem d_Mod_codeOf_91 : decode b_Mod_codeOf 91 = .ok (.goto 8, 3) := by decide +kernel
theorem d_Mod_codeOf_94 : decode b_Mod_codeOf 94 = .ok (.iload 5, 2) := by decide +kernel
theorem d_Mod_codeOf_96 : decode b_Mod_codeOf 96 = .ok (.bipush 64, 2) := by decide +kernel
theorem d_Mod_codeOf_98 : decode b_Mod_codeOf 98 = .ok (.iadd, 1) := by decide +kernel
theorem d_Mod_codeOf_99 : decode b_Mod_codeOf 99 = .ok (.ireturn, 1) := by decide +kernel
theorem d_Mod_parity_0 : decode b_Mod_parity 0 = .ok (.iconst 0, 1) := by decide +kernel
theorem d_Mod_parity_1 : decode b_Mod_parity 1 = .ok (.istore_n 1, 1) := by decide +kernel
theorem d_Mod_parity_2 : decode b_Mod_parity 2 = .ok (.iconst 0, 1) := by decide +kernel
theorem d_Mod_parity_3 : decode b_Mod_parity 3 = .ok (.istore_n 2, 1) := by decide +kernel
theorem d_Mod_parity_4 : decode b_Mod_parity 4 = .ok (.iload_n 2, 1) := by decide +kernel
theorem d_Mod_parity_5 : decode b_Mod_parity 5 = .ok (.bipush 24, 2) := by decide +kernel
theorem d_Mod_parity_7 : decode b_Mod_parity 7 = .ok (.if_icmp .ge 17, 3) := by decide +kernel
theorem d_Mod_parity_10 : decode b_Mod_parity 10 = .ok (.iload_n 1, 1) := by decide +kernel
theorem d_Mod_parity_11 : decode b_Mod_parity 11 = .ok (.iload_n 0, 1) := by decide +kernel
theorem d_Mod_parity_12 : decode b_Mod_parity 12 = .ok (.iload_n 2, 1) := by decide +kernel
theorem d_Mod_parity_13 : decode b_Mod_parity 13 = .ok (.ishr, 1) := by decide +kernel
theorem d_Mod_parity_14 : decode b_Mod_parity 14 = .ok (.iconst 1, 1) := by decide +kernel
theorem d_Mod_parity_15 : decode b_Mod_parity 15 = .ok (.iand, 1) := by decide +kernel
theorem d_Mod_parity_16 : decode b_Mod_parity 16 = .ok (.iadd, 1) := by decide +kernel
theorem d_Mod_parity_17 : decode b_Mod_parity 17 = .ok (.istore_n 1, 1) := by decide +kernel
theorem d_Mod_parity_18 : decode b_Mod_parity 18 = .ok (.iinc 2 1, 3) := by decide +kernel
theorem d_Mod_parity_21 : decode b_Mod_parity 21 = .ok (.goto (-17), 3) := by decide +kernel
theorem d_Mod_parity_24 : decode b_Mod_parity 24 = .ok (.iload_n 1, 1) := by decide +kernel
theorem d_Mod_parity_25 : decode b_Mod_parity 25 = .ok (.iconst 2, 1) := by decide +kernel
theorem d_Mod_parity_26 : decode b_Mod_parity 26 = .ok (.irem, 1) := by decide +kernel
theorem d_Mod_parity_27 : decode b_Mod_parity 27 = .ok (.ireturn, 1) := by decide +kernel
theorem d_Mod_drop_0 : decode b_Mod_drop 0 = .ok (.aload_n 0, 1) := by decide +kernel
theorem d_Mod_drop_1 : decode b_Mod_drop 1 = .ok (.getfield 41, 3) := by decide +kernel
theorem d_Mod_drop_4 : decode b_Mod_drop 4 = .ok (.iconst 1, 1) := by decide +kernel
theorem d_Mod_drop_5 : decode b_Mod_drop 5 = .ok (.dup2, 1) := by decide +kernel
theorem d_Mod_drop_6 : decode b_Mod_drop 6 = .ok (.iaload, 1) := by decide +kernel
theorem d_Mod_drop_7 : decode b_Mod_drop 7 = .ok (.iconst 1, 1) := by decide +kernel
theorem d_Mod_drop_8 : decode b_Mod_drop 8 = .ok (.iadd, 1) := by decide +kernel
theorem d_Mod_drop_9 : decode b_Mod_drop 9 = .ok (.iastore, 1) := by decide +kernel
theorem d_Mod_drop_10 : decode b_Mod_drop 10 = .ok (.return_, 1) := by decide +kernel
theorem d_Mod_takeHeader_0 : decode b_Mod_takeHeader 0 = .ok (.aload_n 0, 1) := by decide +kernel
theorem d_Mod_takeHeader_1 : decode b_Mod_takeHeader 1 = .ok (.aload_n 0, 1) := by decide +kernel
theorem d_Mod_takeHeader_2 : decode b_Mod_takeHeader 2 = .ok (.getfield 38, 3) := by decide +kernel
theorem d_Mod_takeHeader_5 : decode b_Mod_takeHeader 5 = .ok (.iconst 2, 1) := by decide +kernel
theorem d_Mod_takeHeader_6 : decode b_Mod_takeHeader 6 = .ok (.iaload, 1) := by decide +kernel
theorem d_Mod_takeHeader_7 : decode b_Mod_takeHeader 7 = .ok (.invokevirtual 90, 3) := by decide +kernel
theorem d_Mod_takeHeader_10 : decode b_Mod_takeHeader 10 = .ok (.istore_n 2, 1) := by decide +kernel
theorem d_Mod_takeHeader_11 : decode b_Mod_takeHeader 11 = .ok (.iload_n 2, 1) := by decide +kernel
theorem d_Mod_takeHeader_12 : decode b_Mod_takeHeader 12 = .ok (.ifCond .ge 7, 3) := by decide +kernel
theorem d_Mod_takeHeader_15 : decode b_Mod_takeHeader 15 = .ok (.iconst (-1), 1) := by decide +kernel
theorem d_Mod_takeHeader_16 : decode b_Mod_takeHeader 16 = .ok (.goto 13, 3) := by decide +kernel
theorem d_Mod_takeHeader_19 : decode b_Mod_takeHeader 19 = .ok (.aload_n 0, 1) := by decide +kernel
theorem d_Mod_takeHeader_20 : decode b_Mod_takeHeader 20 = .ok (.aload_n 0, 1) := by decide +kernel
theorem d_Mod_takeHeader_21 : decode b_Mod_takeHeader 21 = .ok (.getfield 38, 3) := by decide +kernel
theorem d_Mod_takeHeader_24 : decode b_Mod_takeHeader 24 = .ok (.iconst 3, 1) := by decide +kernel
theorem d_Mod_takeHeader_25 : decode b_Mod_takeHeader 25 = .ok (.iaload, 1) := by decide +kernel
theorem d_Mod_takeHeader_26 : decode b_Mod_takeHeader 26 = .ok (.invokevirtual 90, 3) := by decide +kernel
theorem d_Mod_takeHeader_29 : decode b_Mod_takeHeader 29 = .ok (.istore_n 3, 1) := by decide +kernel
theorem d_Mod_takeHeader_30 : decode b_Mod_takeHeader 30 = .ok (.iload_n 3, 1) := by decide +kernel
theorem d_Mod_takeHeader_31 : decode b_Mod_takeHeader 31 = .ok (.ifCond .ge 7, 3) := by decide +kernel
theorem d_Mod_takeHeader_34 : decode b_Mod_takeHeader 34 = .ok (.iconst (-1), 1) := by decide +kernel
theorem d_Mod_takeHeader_35 : decode b_Mod_takeHeader 35 = .ok (.goto 13, 3) := by decide +kernel
theorem d_Mod_takeHeader_38 : decode b_Mod_takeHeader 38 = .ok (.aload_n 0, 1) := by decide +kernel
theorem d_Mod_takeHeader_39 : decode b_Mod_takeHeader 39 = .ok (.aload_n 0, 1) := by decide +kernel
theorem d_Mod_takeHeader_40 : decode b_Mod_takeHeader 40 = .ok (.getfield 38, 3) := by decide +kernel
theorem d_Mod_takeHeader_43 : decode b_Mod_takeHeader 43 = .ok (.iconst 4, 1) := by decide +kernel
theorem d_Mod_takeHeader_44 : decode b_Mod_takeHeader 44 = .ok (.iaload, 1) := by decide +kernel
theorem d_Mod_takeHeader_45 : decode b_Mod_takeHeader 45 = .ok (.invokevirtual 90, 3) := by decide +kernel
theorem d_Mod_takeHeader_48 : decode b_Mod_takeHeader 48 = .ok (.istore 4, 2) := by decide +kernel
theorem d_Mod_takeHeader_50 : decode b_Mod_takeHeader 50 = .ok (.iload 4, 2) := by decide +kernel
theorem d_Mod_takeHeader_52 : decode b_Mod_takeHeader 52 = .ok (.ifCond .ge 7, 3) := by decide +kernel
theorem d_Mod_takeHeader_55 : decode b_Mod_takeHeader 55 = .ok (.iconst (-1), 1) := by decide +kernel
theorem d_Mod_takeHeader_56 : decode b_Mod_takeHeader 56 = .ok (.goto 13, 3) := by decide +kernel
theorem d_Mod_takeHeader_59 : decode b_Mod_takeHeader 59 = .ok (.aload_n 0, 1) := by decide +kernel
theorem d_Mod_takeHeader_60 : decode b_Mod_takeHeader 60 = .ok (.aload_n 0, 1) := by decide +kernel
theorem d_Mod_takeHeader_61 : decode b_Mod_takeHeader 61 = .ok (.getfield 38, 3) := by decide +kernel
theorem d_Mod_takeHeader_64 : decode b_Mod_takeHeader 64 = .ok (.iconst 5, 1) := by decide +kernel
theorem d_Mod_takeHeader_65 : decode b_Mod_takeHeader 65 = .ok (.iaload, 1) := by decide +kernel
theorem d_Mod_takeHeader_66 : decode b_Mod_takeHeader 66 = .ok (.invokevirtual 90, 3) := by decide +kernel
theorem d_Mod_takeHeader_69 : decode b_Mod_takeHeader 69 = .ok (.istore 5, 2) := by decide +kernel
theorem d_Mod_takeHeader_71 : decode b_Mod_takeHeader 71 = .ok (.iload 5, 2) := by decide +kernel
theorem d_Mod_takeHeader_73 : decode b_Mod_takeHeader 73 = .ok (.ifCond .ge 7, 3) := by decide +kernel
theorem d_Mod_takeHeader_76 : decode b_Mod_takeHeader 76 = .ok (.iconst (-1), 1) := by decide +kernel
theorem d_Mod_takeHeader_77 : decode b_Mod_takeHeader 77 = .ok (.goto 14, 3) := by decide +kernel
theorem d_Mod_takeHeader_80 : decode b_Mod_takeHeader 80 = .ok (.aload_n 0, 1) := by decide +kernel
theorem d_Mod_takeHeader_81 : decode b_Mod_takeHeader 81 = .ok (.aload_n 0, 1) := by decide +kernel
theorem d_Mod_takeHeader_82 : decode b_Mod_takeHeader 82 = .ok (.getfield 38, 3) := by decide +kernel
theorem d_Mod_takeHeader_85 : decode b_Mod_takeHeader 85 = .ok (.bipush 6, 2) := by decide +kernel
theorem d_Mod_takeHeader_87 : decode b_Mod_takeHeader 87 = .ok (.iaload, 1) := by decide +kernel
theorem d_Mod_takeHeader_88 : decode b_Mod_takeHeader 88 = .ok (.invokevirtual 90, 3) := by decide +kernel
theorem d_Mod_takeHeader_91 : decode b_Mod_takeHeader 91 = .ok (.istore 6, 2) := by decide +kernel
theorem d_Mod_takeHeader_93 : decode b_Mod_takeHeader 93 = .ok (.iload 6, 2) := by decide +kernel
theorem d_Mod_takeHeader_95 : decode b_Mod_takeHeader 95 = .ok (.ifCond .ge 7, 3) := by decide +kernel
theorem d_Mod_takeHeader_98 : decode b_Mod_takeHeader 98 = .ok (.iconst (-1), 1) := by decide +kernel
theorem d_Mod_takeHeader_99 : decode b_Mod_takeHeader 99 = .ok (.goto 14, 3) := by decide +kernel
theorem d_Mod_takeHeader_102 : decode b_Mod_takeHeader 102 = .ok (.aload_n 0, 1) := by decide +kernel
theorem d_Mod_takeHeader_103 : decode b_Mod_takeHeader 103 = .ok (.aload_n 0, 1) := by decide +kernel
theorem d_Mod_takeHeader_104 : decode b_Mod_takeHeader 104 = .ok (.getfield 38, 3) := by decide +kernel
theorem d_Mod_takeHeader_107 : decode b_Mod_takeHeader 107 = .ok (.bipush 7, 2) := by decide +kernel
theorem d_Mod_takeHeader_109 : decode b_Mod_takeHeader 109 = .ok (.iaload, 1) := by decide +kernel
theorem d_Mod_takeHeader_110 : decode b_Mod_takeHeader 110 = .ok (.invokevirtual 90, 3) := by decide +kernel
theorem d_Mod_takeHeader_113 : decode b_Mod_takeHeader 113 = .ok (.istore 7, 2) := by decide +kernel
theorem d_Mod_takeHeader_115 : decode b_Mod_takeHeader 115 = .ok (.iload 7, 2) := by decide +kernel
theorem d_Mod_takeHeader_117 : decode b_Mod_takeHeader 117 = .ok (.ifCond .ge 8, 3) := by decide +kernel
theorem d_Mod_takeHeader_120 : decode b_Mod_takeHeader 120 = .ok (.aload_n 0, 1) := by decide +kernel
theorem d_Mod_takeHeader_121 : decode b_Mod_takeHeader 121 = .ok (.invokevirtual 93, 3) := by decide +kernel
theorem d_Mod_takeHeader_124 : decode b_Mod_takeHeader 124 = .ok (.return_, 1) := by decide +kernel
theorem d_Mod_takeHeader_125 : decode b_Mod_takeHeader 125 = .ok (.iconst 0, 1) := by decide +kernel
theorem d_Mod_takeHeader_126 : decode b_Mod_takeHeader 126 = .ok (.istore 8, 2) := by decide +kernel
theorem d_Mod_takeHeader_128 : decode b_Mod_takeHeader 128 = .ok (.iload 8, 2) := by decide +kernel
theorem d_Mod_takeHeader_130 : decode b_Mod_takeHeader 130 = .ok (.bipush 8, 2) := by decide +kernel
theorem d_Mod_takeHeader_132 : decode b_Mod_takeHeader 132 = .ok (.if_icmp .ge 29, 3) := by decide +kernel
theorem d_Mod_takeHeader_135 : decode b_Mod_takeHeader 135 = .ok (.iload 8, 2) := by decide +kernel
theorem d_Mod_takeHeader_137 : decode b_Mod_takeHeader 137 = .ok (.iload_n 1, 1) := by decide +kernel
theorem d_Mod_takeHeader_138 : decode b_Mod_takeHeader 138 = .ok (.if_icmp .eq 11, 3) := by decide +kernel
theorem d_Mod_takeHeader_141 : decode b_Mod_takeHeader 141 = .ok (.iload 6, 2) := by decide +kernel
theorem d_Mod_takeHeader_143 : decode b_Mod_takeHeader 143 = .ok (.iconst 2, 1) := by decide +kernel
theorem d_Mod_takeHeader_144 : decode b_Mod_takeHeader 144 = .ok (.irem, 1) := by decide +kernel
theorem d_Mod_takeHeader_145 : decode b_Mod_takeHeader 145 = .ok (.iconst 1, 1) := by decide +kernel
theorem d_Mod_takeHeader_146 : decode b_Mod_takeHeader 146 = .ok (.if_icmp .ne 9, 3) := by decide +kernel
theorem d_Mod_takeHeader_149 : decode b_Mod_takeHeader 149 = .ok (.aload_n 0, 1) := by decide +kernel
theorem d_Mod_takeHeader_150 : decode b_Mod_takeHeader 150 = .ok (.iload 8, 2) := by decide +kernel
theorem d_Mod_takeHeader_152 : decode b_Mod_takeHeader 152 = .ok (.invokevirtual 109, 3) := by decide +kernel
theorem d_Mod_takeHeader_155 : decode b_Mod_takeHeader 155 = .ok (.iinc 8 1, 3) := by decide +kernel
theorem d_Mod_takeHeader_158 : decode b_Mod_takeHeader 158 = .ok (.goto (-30), 3) := by decide +kernel
theorem d_Mod_takeHeader_161 : decode b_Mod_takeHeader 161 = .ok (.iload_n 3, 1) := by decide +kernel
theorem d_Mod_takeHeader_162 : decode b_Mod_takeHeader 162 = .ok (.bipush 15, 2) := by decide +kernel
theorem d_Mod_takeHeader_164 : decode b_Mod_takeHeader 164 = .ok (.if_icmp .ne 9, 3) := by decide +kernel
theorem d_Mod_takeHeader_167 : decode b_Mod_takeHeader 167 = .ok (.iload_n 2, 1) := by decide +kernel
theorem d_Mod_takeHeader_168 : decode b_Mod_takeHeader 168 = .ok (.bipush 15, 2) := by decide +kernel
theorem d_Mod_takeHeader_170 : decode b_Mod_takeHeader 170 = .ok (.if_icmp .eq 29, 3) := by decide +kernel
theorem d_Mod_takeHeader_173 : decode b_Mod_takeHeader 173 = .ok (.aload_n 0, 1) := by decide +kernel
theorem d_Mod_takeHeader_174 : decode b_Mod_takeHeader 174 = .ok (.iload_n 1, 1) := by decide +kernel
theorem d_Mod_takeHeader_175 : decode b_Mod_takeHeader 175 = .ok (.sipush 256, 3) := by decide +kernel
theorem d_Mod_takeHeader_178 : decode b_Mod_takeHeader 178 = .ok (.iload_n 1, 1) := by decide +kernel
theorem d_Mod_takeHeader_179 : decode b_Mod_takeHeader 179 = .ok (.imul, 1) := by decide +kernel
theorem d_Mod_takeHeader_180 : decode b_Mod_takeHeader 180 = .ok (.bipush 16, 2) := by decide +kernel
theorem d_Mod_takeHeader_182 : decode b_Mod_takeHeader 182 = .ok (.iload_n 3, 1) := by decide +kernel
theorem d_Mod_takeHeader_183 : decode b_Mod_takeHeader 183 = .ok (.imul, 1) := by decide +kernel
theorem d_Mod_takeHeader_184 : decode b_Mod_takeHeader 184 = .ok (.iadd, 1) := by decide +kernel
theorem d_Mod_takeHeader_185 : decode b_Mod_takeHeader 185 = .ok (.iload_n 2, 1) := by decide +kernel
theorem d_Mod_takeHeader_186 : decode b_Mod_takeHeader 186 = .ok (.iadd, 1) := by decide +kernel
theorem d_Mod_takeHeader_187 : decode b_Mod_takeHeader 187 = .ok (.iload 4, 2) := by decide +kernel
theorem d_Mod_takeHeader_189 : decode b_Mod_takeHeader 189 = .ok (.iload 5, 2) := by decide +kernel
theorem d_Mod_takeHeader_191 : decode b_Mod_takeHeader 191 = .ok (.iload 7, 2) := by decide +kernel
theorem d_Mod_takeHeader_193 : decode b_Mod_takeHeader 193 = .ok (.bipush 8, 2) := by decide +kernel
theorem d_Mod_takeHeader_195 : decode b_Mod_takeHeader 195 = .ok (.irem, 1) := by decide +kernel
theorem d_Mod_takeHeader_196 : decode b_Mod_takeHeader 196 = .ok (.invokevirtual 112, 3) := by decide +kernel
theorem d_Mod_takeHeader_199 : decode b_Mod_takeHeader 199 = .ok (.bipush 8, 2) := by decide +kernel
theorem d_Mod_takeHeader_201 : decode b_Mod_takeHeader 201 = .ok (.istore 8, 2) := by decide +kernel
theorem d_Mod_takeHeader_203 : decode b_Mod_takeHeader 203 = .ok (.iload 8, 2) := by decide +kernel
theorem d_Mod_takeHeader_205 : decode b_Mod_takeHeader 205 = .ok (.bipush 20, 2) := by decide +kernel
theorem d_Mod_takeHeader_207 : decode b_Mod_takeHeader 207 = .ok (.if_icmp .ge 76, 3) := by decide +kernel
theorem d_Mod_takeHeader_210 : decode b_Mod_takeHeader 210 = .ok (.aload_n 0, 1) := by decide +kernel
theorem d_Mod_takeHeader_211 : decode b_Mod_takeHeader 211 = .ok (.aload_n 0, 1) := by decide +kernel
theorem d_Mod_takeHeader_212 : decode b_Mod_takeHeader 212 = .ok (.getfield 38, 3) := by decide +kernel
theorem d_Mod_takeHeader_215 : decode b_Mod_takeHeader 215 = .ok (.iconst 2, 1) := by decide +kernel
theorem d_Mod_takeHeader_216 : decode b_Mod_takeHeader 216 = .ok (.iload 8, 2) := by decide +kernel
theorem d_Mod_takeHeader_218 : decode b_Mod_takeHeader 218 = .ok (.iadd, 1) := by decide +kernel
theorem d_Mod_takeHeader_219 : decode b_Mod_takeHeader 219 = .ok (.iaload, 1) := by decide +kernel
theorem d_Mod_takeHeader_220 : decode b_Mod_takeHeader 220 = .ok (.invokevirtual 100, 3) := by decide +kernel
theorem d_Mod_takeHeader_223 : decode b_Mod_takeHeader 223 = .ok (.istore 9, 2) := by decide +kernel
theorem d_Mod_takeHeader_225 : decode b_Mod_takeHeader 225 = .ok (.iload 9, 2) := by decide +kernel
theorem d_Mod_takeHeader_227 : decode b_Mod_takeHeader 227 = .ok (.ifCond .lt 27, 3) := by decide +kernel
theorem d_Mod_takeHeader_230 : decode b_Mod_takeHeader 230 = .ok (.aload_n 0, 1) := by decide +kernel
theorem d_Mod_takeHeader_231 : decode b_Mod_takeHeader 231 = .ok (.getfield 7, 3) := by decide +kernel
theorem d_Mod_takeHeader_234 : decode b_Mod_takeHeader 234 = .ok (.iload_n 1, 1) := by decide +kernel
theorem d_Mod_takeHeader_235 : decode b_Mod_takeHeader 235 = .ok (.baload, 1) := by decide +kernel
theorem d_Mod_takeHeader_236 : decode b_Mod_takeHeader 236 = .ok (.ifCond .eq 18, 3) := by decide +kernel
theorem d_Mod_takeHeader_239 : decode b_Mod_takeHeader 239 = .ok (.aload_n 0, 1) := by decide +kernel
theorem d_Mod_takeHeader_240 : decode b_Mod_takeHeader 240 = .ok (.getfield 29, 3) := by decide +kernel
theorem d_Mod_takeHeader_243 : decode b_Mod_takeHeader 243 = .ok (.sipush 160, 3) := by decide +kernel
theorem d_Mod_takeHeader_246 : decode b_Mod_takeHeader 246 = .ok (.iload_n 1, 1) := by decide +kernel
theorem d_Mod_takeHeader_247 : decode b_Mod_takeHeader 247 = .ok (.imul, 1) := by decide +kernel
theorem d_Mod_takeHeader_248 : decode b_Mod_takeHeader 248 = .ok (.iload 8, 2) := by decide +kernel
theorem d_Mod_takeHeader_250 : decode b_Mod_takeHeader 250 = .ok (.iadd, 1) := by decide +kernel
theorem d_Mod_takeHeader_251 : decode b_Mod_takeHeader 251 = .ok (.iload 9, 2) := by decide +kernel
theorem d_Mod_takeHeader_253 : decode b_Mod_takeHeader 253 = .ok (.iastore, 1) := by decide +kernel
theorem d_Mod_takeHeader_254 : decode b_Mod_takeHeader 254 = .ok (.iload 9, 2) := by decide +kernel
theorem d_Mod_takeHeader_256 : decode b_Mod_takeHeader 256 = .ok (.ifCond .lt 21, 3) := by decide +kernel
theorem d_Mod_takeHeader_259 : decode b_Mod_takeHeader 259 = .ok (.iload 6, 2) := by decide +kernel
theorem d_Mod_takeHeader_261 : decode b_Mod_takeHeader 261 = .ok (.iconst 2, 1) := by decide +kernel
theorem d_Mod_takeHeader_262 : decode b_Mod_takeHeader 262 = .ok (.idiv, 1) := by decide +kernel
theorem d_Mod_takeHeader_263 : decode b_Mod_takeHeader 263 = .ok (.iconst 2, 1) := by decide +kernel
theorem d_Mod_takeHeader_264 : decode b_Mod_takeHeader 264 = .ok (.irem, 1) := by decide +kernel
theorem d_Mod_takeHeader_265 : decode b_Mod_takeHeader 265 = .ok (.ifCond .ne 12, 3) := by decide +kernel
theorem d_Mod_takeHeader_268 : decode b_Mod_takeHeader 268 = .ok (.aload_n 0, 1) := by decide +kernel
theorem d_Mod_takeHeader_269 : decode b_Mod_takeHeader 269 = .ok (.getfield 35, 3) := by decide +kernel
theorem d_Mod_takeHeader_272 : decode b_Mod_takeHeader 272 = .ok (.iload 8, 2) := by decide +kernel
theorem d_Mod_takeHeader_274 : decode b_Mod_takeHeader 274 = .ok (.iload 9, 2) := by decide +kernel
theorem d_Mod_takeHeader_276 : decode b_Mod_takeHeader 276 = .ok (.iastore, 1) := by decide +kernel
theorem d_Mod_takeHeader_277 : decode b_Mod_takeHeader 277 = .ok (.iinc 8 1, 3) := by decide +kernel
theorem d_Mod_takeHeader_280 : decode b_Mod_takeHeader 280 = .ok (.goto (-77), 3) := by decide +kernel
theorem d_Mod_takeHeader_283 : decode b_Mod_takeHeader 283 = .ok (.return_, 1) := by decide +kernel
theorem d_Mod_complete_0 : decode b_Mod_complete 0 = .ok (.aload_n 0, 1) := by decide +kernel
theorem d_Mod_complete_1 : decode b_Mod_complete 1 = .ok (.getfield 7, 3) := by decide +kernel
theorem d_Mod_complete_4 : decode b_Mod_complete 4 = .ok (.iload_n 1, 1) := by decide +kernel
theorem d_Mod_complete_5 : decode b_Mod_complete 5 = .ok (.baload, 1) := by decide +kernel
theorem d_Mod_complete_6 : decode b_Mod_complete 6 = .ok (.ifCond .ne 4, 3) := by decide +kernel
theorem d_Mod_complete_9 : decode b_Mod_complete 9 = .ok (.return_, 1) := by decide +kernel
theorem d_Mod_complete_10 : decode b_Mod_complete 10 = .ok (.aload_n 0, 1) := by decide +kernel
theorem d_Mod_complete_11 : decode b_Mod_complete 11 = .ok (.getfield 7, 3) := by decide +kernel
theorem d_Mod_complete_14 : decode b_Mod_complete 14 = .ok (.iload_n 1, 1) := by decide +kernel
theorem d_Mod_complete_15 : decode b_Mod_complete 15 = .ok (.iconst 0, 1) := by decide +kernel
theorem d_Mod_complete_16 : decode b_Mod_complete 16 = .ok (.bastore, 1) := by decide +kernel
theorem d_Mod_complete_17 : decode b_Mod_complete 17 = .ok (.aload_n 0, 1) := by decide +kernel
theorem d_Mod_complete_18 : decode b_Mod_complete 18 = .ok (.aload_n 0, 1) := by decide +kernel
theorem d_Mod_complete_19 : decode b_Mod_complete 19 = .ok (.getfield 13, 3) := by decide +kernel
theorem d_Mod_complete_22 : decode b_Mod_complete 22 = .ok (.iload_n 1, 1) := by decide +kernel
theorem d_Mod_complete_23 : decode b_Mod_complete 23 = .ok (.iaload, 1) := by decide +kernel
theorem d_Mod_complete_24 : decode b_Mod_complete 24 = .ok (.invokevirtual 83, 3) := by decide +kernel
theorem d_Mod_complete_27 : decode b_Mod_complete 27 = .ok (.istore_n 2, 1) := by decide +kernel
theorem d_Mod_complete_28 : decode b_Mod_complete 28 = .ok (.aload_n 0, 1) := by decide +kernel
theorem d_Mod_complete_29 : decode b_Mod_complete 29 = .ok (.iload_n 1, 1) := by decide +kernel
theorem d_Mod_complete_30 : decode b_Mod_complete 30 = .ok (.iload_n 2, 1) := by decide +kernel
theorem d_Mod_complete_31 : decode b_Mod_complete 31 = .ok (.invokevirtual 86, 3) := by decide +kernel
theorem d_Mod_complete_34 : decode b_Mod_complete 34 = .ok (.aload_n 0, 1) := by decide +kernel
theorem d_Mod_complete_35 : decode b_Mod_complete 35 = .ok (.getfield 23, 3) := by decide +kernel
theorem d_Mod_complete_38 : decode b_Mod_complete 38 = .ok (.iload_n 2, 1) := by decide +kernel
theorem d_Mod_complete_39 : decode b_Mod_complete 39 = .ok (.aload_n 0, 1) := by decide +kernel
theorem d_Mod_complete_40 : decode b_Mod_complete 40 = .ok (.getfield 41, 3) := by decide +kernel
theorem d_Mod_complete_43 : decode b_Mod_complete 43 = .ok (.iconst 5, 1) := by decide +kernel
theorem d_Mod_complete_44 : decode b_Mod_complete 44 = .ok (.iaload, 1) := by decide +kernel
theorem d_Mod_complete_45 : decode b_Mod_complete 45 = .ok (.iastore, 1) := by decide +kernel
theorem d_Mod_complete_46 : decode b_Mod_complete 46 = .ok (.aload_n 0, 1) := by decide +kernel
theorem d_Mod_complete_47 : decode b_Mod_complete 47 = .ok (.getfield 41, 3) := by decide +kernel
theorem d_Mod_complete_50 : decode b_Mod_complete 50 = .ok (.iconst 5, 1) := by decide +kernel
theorem d_Mod_complete_51 : decode b_Mod_complete 51 = .ok (.dup2, 1) := by decide +kernel
theorem d_Mod_complete_52 : decode b_Mod_complete 52 = .ok (.iaload, 1) := by decide +kernel
theorem d_Mod_complete_53 : decode b_Mod_complete 53 = .ok (.iconst 1, 1) := by decide +kernel
theorem d_Mod_complete_54 : decode b_Mod_complete 54 = .ok (.iadd, 1) := by decide +kernel
theorem d_Mod_complete_55 : decode b_Mod_complete 55 = .ok (.iastore, 1) := by decide +kernel
theorem d_Mod_complete_56 : decode b_Mod_complete 56 = .ok (.return_, 1) := by decide +kernel
theorem d_Mod_placeFor_0 : decode b_Mod_placeFor 0 = .ok (.aload_n 0, 1) := by decide +kernel
theorem d_Mod_placeFor_1 : decode b_Mod_placeFor 1 = .ok (.iload_n 1, 1) := by decide +kernel
theorem d_Mod_placeFor_2 : decode b_Mod_placeFor 2 = .ok (.invokevirtual 80, 3) := by decide +kernel
theorem d_Mod_placeFor_5 : decode b_Mod_placeFor 5 = .ok (.istore_n 2, 1) := by decide +kernel
theorem d_Mod_placeFor_6 : decode b_Mod_placeFor 6 = .ok (.iload_n 2, 1) := by decide +kernel
theorem d_Mod_placeFor_7 : decode b_Mod_placeFor 7 = .ok (.ifCond .lt 5, 3) := by decide +kernel
theorem d_Mod_placeFor_10 : decode b_Mod_placeFor 10 = .ok (.iload_n 2, 1) := by decide +kernel
theorem d_Mod_placeFor_11 : decode b_Mod_placeFor 11 = .ok (.ireturn, 1) := by decide +kernel
theorem d_Mod_placeFor_12 : decode b_Mod_placeFor 12 = .ok (.iconst (-1), 1) := by decide +kernel
theorem d_Mod_placeFor_13 : decode b_Mod_placeFor 13 = .ok (.istore_n 3, 1) := by decide +kernel
theorem d_Mod_placeFor_14 : decode b_Mod_placeFor 14 = .ok (.bipush 8, 2) := by decide +kernel
theorem d_Mod_placeFor_16 : decode b_Mod_placeFor 16 = .ok (.istore 4, 2) := by decide +kernel
theorem d_Mod_placeFor_18 : decode b_Mod_placeFor 18 = .ok (.iload 4, 2) := by decide +kernel
theorem d_Mod_placeFor_20 : decode b_Mod_placeFor 20 = .ok (.bipush 8, 2) := by decide +kernel
theorem d_Mod_placeFor_22 : decode b_Mod_placeFor 22 = .ok (.aload_n 0, 1) := by decide +kernel
theorem d_Mod_placeFor_23 : decode b_Mod_placeFor 23 = .ok (.getfield 70, 3) := by decide +kernel
theorem d_Mod_placeFor_26 : decode b_Mod_placeFor 26 = .ok (.iadd, 1) := by decide +kernel
theorem d_Mod_placeFor_27 : decode b_Mod_placeFor 27 = .ok (.if_icmp .ge 79, 3) := by decide +kernel
theorem d_Mod_placeFor_30 : decode b_Mod_placeFor 30 = .ok (.aload_n 0, 1) := by decide +kernel
theorem d_Mod_placeFor_31 : decode b_Mod_placeFor 31 = .ok (.getfield 7, 3) := by decide +kernel
theorem d_Mod_placeFor_34 : decode b_Mod_placeFor 34 = .ok (.iload 4, 2) := by decide +kernel
theorem d_Mod_placeFor_36 : decode b_Mod_placeFor 36 = .ok (.baload, 1) := by decide +kernel
theorem d_Mod_placeFor_37 : decode b_Mod_placeFor 37 = .ok (.ifCond .ne 6, 3) := by decide +kernel
theorem d_Mod_placeFor_40 : decode b_Mod_placeFor 40 = .ok (.iload 4, 2) := by decide +kernel
theorem d_Mod_placeFor_42 : decode b_Mod_placeFor 42 = .ok (.ireturn, 1) := by decide +kernel
theorem d_Mod_placeFor_43 : decode b_Mod_placeFor 43 = .ok (.aload_n 0, 1) := by decide +kernel
theorem d_Mod_placeFor_44 : decode b_Mod_placeFor 44 = .ok (.getfield 70, 3) := by decide +kernel
theorem d_Mod_placeFor_47 : decode b_Mod_placeFor 47 = .ok (.iconst 1, 1) := by decide +kernel
theorem d_Mod_placeFor_48 : decode b_Mod_placeFor 48 = .ok (.if_icmp .eq 17, 3) := by decide +kernel
theorem d_Mod_placeFor_51 : decode b_Mod_placeFor 51 = .ok (.aload_n 0, 1) := by decide +kernel
theorem d_Mod_placeFor_52 : decode b_Mod_placeFor 52 = .ok (.getfield 13, 3) := by decide +kernel
theorem d_Mod_placeFor_55 : decode b_Mod_placeFor 55 = .ok (.iload 4, 2) := by decide +kernel
theorem d_Mod_placeFor_57 : decode b_Mod_placeFor 57 = .ok (.iaload, 1) := by decide +kernel
theorem d_Mod_placeFor_58 : decode b_Mod_placeFor 58 = .ok (.aload_n 0, 1) := by decide +kernel
theorem d_Mod_placeFor_59 : decode b_Mod_placeFor 59 = .ok (.getfield 44, 3) := by decide +kernel
theorem d_Mod_placeFor_62 : decode b_Mod_placeFor 62 = .ok (.if_icmp .eq 7, 3) := by decide +kernel
theorem d_Mod_placeFor_65 : decode b_Mod_placeFor 65 = .ok (.iconst 1, 1) := by decide +kernel
theorem d_Mod_placeFor_66 : decode b_Mod_placeFor 66 = .ok (.goto 4, 3) := by decide +kernel
theorem d_Mod_placeFor_69 : decode b_Mod_placeFor 69 = .ok (.iconst 0, 1) := by decide +kernel
theorem d_Mod_placeFor_70 : decode b_Mod_placeFor 70 = .ok (.istore 5, 2) := by decide +kernel
theorem d_Mod_placeFor_72 : decode b_Mod_placeFor 72 = .ok (.iload 5, 2) := by decide +kernel
theorem d_Mod_placeFor_74 : decode b_Mod_placeFor 74 = .ok (.ifCond .eq 26, 3) := by decide +kernel
theorem d_Mod_placeFor_77 : decode b_Mod_placeFor 77 = .ok (.iload_n 3, 1) := by decide +kernel
theorem d_Mod_placeFor_78 : decode b_Mod_placeFor 78 = .ok (.ifCond .lt 19, 3) := by decide +kernel
theorem d_Mod_placeFor_81 : decode b_Mod_placeFor 81 = .ok (.aload_n 0, 1) := by decide +kernel
theorem d_Mod_placeFor_82 : decode b_Mod_placeFor 82 = .ok (.getfield 23, 3) := by decide +kernel
theorem d_Mod_placeFor_85 : decode b_Mod_placeFor 85 = .ok (.iload 4, 2) := by decide +kernel
theorem d_Mod_placeFor_87 : decode b_Mod_placeFor 87 = .ok (.iaload, 1) := by decide +kernel
theorem d_Mod_placeFor_88 : decode b_Mod_placeFor 88 = .ok (.aload_n 0, 1) := by decide +kernel
theorem d_Mod_placeFor_89 : decode b_Mod_placeFor 89 = .ok (.getfield 23, 3) := by decide +kernel
theorem d_Mod_placeFor_92 : decode b_Mod_placeFor 92 = .ok (.iload_n 3, 1) := by decide +kernel
theorem d_Mod_placeFor_93 : decode b_Mod_placeFor 93 = .ok (.iaload, 1) := by decide +kernel
theorem d_Mod_placeFor_94 : decode b_Mod_placeFor 94 = .ok (.if_icmp .ge 6, 3) := by decide +kernel
theorem d_Mod_placeFor_97 : decode b_Mod_placeFor 97 = .ok (.iload 4, 2) := by decide +kernel
theorem d_Mod_placeFor_99 : decode b_Mod_placeFor 99 = .ok (.istore_n 3, 1) := by decide +kernel
theorem d_Mod_placeFor_100 : decode b_Mod_placeFor 100 = .ok (.iinc 4 1, 3) := by decide +kernel
theorem d_Mod_placeFor_103 : decode b_Mod_placeFor 103 = .ok (.goto (-85), 3) := by decide +kernel
theorem d_Mod_placeFor_106 : decode b_Mod_placeFor 106 = .ok (.iload_n 3, 1) := by decide +kernel
theorem d_Mod_placeFor_107 : decode b_Mod_placeFor 107 = .ok (.ireturn, 1) := by decide +kernel
