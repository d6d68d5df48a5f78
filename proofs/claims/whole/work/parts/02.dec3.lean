theorem d_States_doAtOnce_0 : decode b_States_doAtOnce 0 = .ok (.iload_n 1, 1) := by decide +kernel
theorem d_States_doAtOnce_1 : decode b_States_doAtOnce 1 = .ok (.tableswitch 170 9 30 #[103, 170, 170, 111, 170, 170, 170, 170, 170, 170, 170, 170, 170, 170, 170, 119, 127, 135, 170, 143, 151, 162], 103) := by decide +kernel
theorem d_States_doAtOnce_104 : decode b_States_doAtOnce 104 = .ok (.aload_n 0, 1) := by decide +kernel
theorem d_States_doAtOnce_105 : decode b_States_doAtOnce 105 = .ok (.iconst 0, 1) := by decide +kernel
theorem d_States_doAtOnce_106 : decode b_States_doAtOnce 106 = .ok (.putfield 22, 3) := by decide +kernel
theorem d_States_doAtOnce_109 : decode b_States_doAtOnce 109 = .ok (.goto 62, 3) := by decide +kernel
theorem d_States_doAtOnce_112 : decode b_States_doAtOnce 112 = .ok (.aload_n 0, 1) := by decide +kernel
theorem d_States_doAtOnce_113 : decode b_States_doAtOnce 113 = .ok (.iconst 0, 1) := by decide +kernel
theorem d_States_doAtOnce_114 : decode b_States_doAtOnce 114 = .ok (.invokevirtual 50, 3) := by decide +kernel
theorem d_States_doAtOnce_117 : decode b_States_doAtOnce 117 = .ok (.goto 54, 3) := by decide +kernel
theorem d_States_doAtOnce_120 : decode b_States_doAtOnce 120 = .ok (.aload_n 0, 1) := by decide +kernel
theorem d_States_doAtOnce_121 : decode b_States_doAtOnce 121 = .ok (.iconst 1, 1) := by decide +kernel
theorem d_States_doAtOnce_122 : decode b_States_doAtOnce 122 = .ok (.putfield 25, 3) := by decide +kernel
theorem d_States_doAtOnce_125 : decode b_States_doAtOnce 125 = .ok (.goto 46, 3) := by decide +kernel
theorem d_States_doAtOnce_128 : decode b_States_doAtOnce 128 = .ok (.aload_n 0, 1) := by decide +kernel
theorem d_States_doAtOnce_129 : decode b_States_doAtOnce 129 = .ok (.iconst 0, 1) := by decide +kernel
theorem d_States_doAtOnce_130 : decode b_States_doAtOnce 130 = .ok (.putfield 34, 3) := by decide +kernel
theorem d_States_doAtOnce_133 : decode b_States_doAtOnce 133 = .ok (.goto 38, 3) := by decide +kernel
theorem d_States_doAtOnce_136 : decode b_States_doAtOnce 136 = .ok (.aload_n 0, 1) := by decide +kernel
theorem d_States_doAtOnce_137 : decode b_States_doAtOnce 137 = .ok (.iconst 1, 1) := by decide +kernel
theorem d_States_doAtOnce_138 : decode b_States_doAtOnce 138 = .ok (.putfield 34, 3) := by decide +kernel
theorem d_States_doAtOnce_141 : decode b_States_doAtOnce 141 = .ok (.goto 30, 3) := by decide +kernel
theorem d_States_doAtOnce_144 : decode b_States_doAtOnce 144 = .ok (.aload_n 0, 1) := by decide +kernel
theorem d_States_doAtOnce_145 : decode b_States_doAtOnce 145 = .ok (.iconst 0, 1) := by decide +kernel
theorem d_States_doAtOnce_146 : decode b_States_doAtOnce 146 = .ok (.putfield 15, 3) := by decide +kernel
theorem d_States_doAtOnce_149 : decode b_States_doAtOnce 149 = .ok (.goto 22, 3) := by decide +kernel
theorem d_States_doAtOnce_152 : decode b_States_doAtOnce 152 = .ok (.aload_n 0, 1) := by decide +kernel
theorem d_States_doAtOnce_153 : decode b_States_doAtOnce 153 = .ok (.aload_n 0, 1) := by decide +kernel
theorem d_States_doAtOnce_154 : decode b_States_doAtOnce 154 = .ok (.getfield 9, 3) := by decide +kernel
theorem d_States_doAtOnce_157 : decode b_States_doAtOnce 157 = .ok (.putfield 15, 3) := by decide +kernel
theorem d_States_doAtOnce_160 : decode b_States_doAtOnce 160 = .ok (.goto 11, 3) := by decide +kernel
theorem d_States_doAtOnce_163 : decode b_States_doAtOnce 163 = .ok (.aload_n 0, 1) := by decide +kernel
theorem d_States_doAtOnce_164 : decode b_States_doAtOnce 164 = .ok (.iconst 1, 1) := by decide +kernel
theorem d_States_doAtOnce_165 : decode b_States_doAtOnce 165 = .ok (.putfield 37, 3) := by decide +kernel
theorem d_States_doAtOnce_168 : decode b_States_doAtOnce 168 = .ok (.goto 3, 3) := by decide +kernel
theorem d_States_doAtOnce_171 : decode b_States_doAtOnce 171 = .ok (.return_, 1) := by decide +kernel
theorem d_States_turnDouble_0 : decode b_States_turnDouble 0 = .ok (.aload_n 0, 1) := by decide +kernel
theorem d_States_turnDouble_1 : decode b_States_turnDouble 1 = .ok (.getfield 31, 3) := by decide +kernel
theorem d_States_turnDouble_4 : decode b_States_turnDouble 4 = .ok (.iload_n 1, 1) := by decide +kernel
theorem d_States_turnDouble_5 : decode b_States_turnDouble 5 = .ok (.if_icmp .eq 10, 3) := by decide +kernel
theorem d_States_turnDouble_8 : decode b_States_turnDouble 8 = .ok (.aload_n 0, 1) := by decide +kernel
theorem d_States_turnDouble_9 : decode b_States_turnDouble 9 = .ok (.bipush 32, 2) := by decide +kernel
theorem d_States_turnDouble_11 : decode b_States_turnDouble 11 = .ok (.iconst 0, 1) := by decide +kernel
theorem d_States_turnDouble_12 : decode b_States_turnDouble 12 = .ok (.invokevirtual 40, 3) := by decide +kernel
theorem d_States_turnDouble_15 : decode b_States_turnDouble 15 = .ok (.aload_n 0, 1) := by decide +kernel
theorem d_States_turnDouble_16 : decode b_States_turnDouble 16 = .ok (.iload_n 1, 1) := by decide +kernel
theorem d_States_turnDouble_17 : decode b_States_turnDouble 17 = .ok (.putfield 31, 3) := by decide +kernel
theorem d_States_turnDouble_20 : decode b_States_turnDouble 20 = .ok (.return_, 1) := by decide +kernel
theorem d_Screen_drawMark_0 : decode b_Screen_drawMark 0 = .ok (.aload_n 0, 1) := by decide +kernel
theorem d_Screen_drawMark_1 : decode b_Screen_drawMark 1 = .ok (.getfield 12, 3) := by decide +kernel
theorem d_Screen_drawMark_4 : decode b_Screen_drawMark 4 = .ok (.getfield 98, 3) := by decide +kernel
theorem d_Screen_drawMark_7 : decode b_Screen_drawMark 7 = .ok (.ifCond .eq 34, 3) := by decide +kernel
theorem d_Screen_drawMark_10 : decode b_Screen_drawMark 10 = .ok (.aload_n 0, 1) := by decide +kernel
theorem d_Screen_drawMark_11 : decode b_Screen_drawMark 11 = .ok (.getfield 12, 3) := by decide +kernel
theorem d_Screen_drawMark_14 : decode b_Screen_drawMark 14 = .ok (.getfield 101, 3) := by decide +kernel
theorem d_Screen_drawMark_17 : decode b_Screen_drawMark 17 = .ok (.ifCond .eq 24, 3) := by decide +kernel
theorem d_Screen_drawMark_20 : decode b_Screen_drawMark 20 = .ok (.aload_n 0, 1) := by decide +kernel
theorem d_Screen_drawMark_21 : decode b_Screen_drawMark 21 = .ok (.aload_n 0, 1) := by decide +kernel
theorem d_Screen_drawMark_22 : decode b_Screen_drawMark 22 = .ok (.getfield 12, 3) := by decide +kernel
theorem d_Screen_drawMark_25 : decode b_Screen_drawMark 25 = .ok (.getfield 104, 3) := by decide +kernel
theorem d_Screen_drawMark_28 : decode b_Screen_drawMark 28 = .ok (.aload_n 0, 1) := by decide +kernel
theorem d_Screen_drawMark_29 : decode b_Screen_drawMark 29 = .ok (.getfield 12, 3) := by decide +kernel
theorem d_Screen_drawMark_32 : decode b_Screen_drawMark 32 = .ok (.getfield 107, 3) := by decide +kernel
theorem d_Screen_drawMark_35 : decode b_Screen_drawMark 35 = .ok (.invokevirtual 110, 3) := by decide +kernel
theorem d_Screen_drawMark_38 : decode b_Screen_drawMark 38 = .ok (.goto 9, 3) := by decide +kernel
theorem d_Screen_drawMark_41 : decode b_Screen_drawMark 41 = .ok (.aload_n 0, 1) := by decide +kernel
theorem d_Screen_drawMark_42 : decode b_Screen_drawMark 42 = .ok (.bipush 32, 2) := by decide +kernel
theorem d_Screen_drawMark_44 : decode b_Screen_drawMark 44 = .ok (.invokevirtual 114, 3) := by decide +kernel
theorem d_Screen_drawMark_47 : decode b_Screen_drawMark 47 = .ok (.return_, 1) := by decide +kernel
theorem d_Screen_drawBlock_0 : decode b_Screen_drawBlock 0 = .ok (.aload_n 0, 1) := by decide +kernel
theorem d_Screen_drawBlock_1 : decode b_Screen_drawBlock 1 = .ok (.iload_n 1, 1) := by decide +kernel
theorem d_Screen_drawBlock_2 : decode b_Screen_drawBlock 2 = .ok (.putfield 126, 3) := by decide +kernel
theorem d_Screen_drawBlock_5 : decode b_Screen_drawBlock 5 = .ok (.aload_n 0, 1) := by decide +kernel
theorem d_Screen_drawBlock_6 : decode b_Screen_drawBlock 6 = .ok (.iload_n 2, 1) := by decide +kernel
theorem d_Screen_drawBlock_7 : decode b_Screen_drawBlock 7 = .ok (.ifCond .eq 7, 3) := by decide +kernel
theorem d_Screen_drawBlock_10 : decode b_Screen_drawBlock 10 = .ok (.iconst 3, 1) := by decide +kernel
theorem d_Screen_drawBlock_11 : decode b_Screen_drawBlock 11 = .ok (.goto 4, 3) := by decide +kernel
theorem d_Screen_drawBlock_14 : decode b_Screen_drawBlock 14 = .ok (.iconst 1, 1) := by decide +kernel
theorem d_Screen_drawBlock_15 : decode b_Screen_drawBlock 15 = .ok (.putfield 129, 3) := by decide +kernel
theorem d_Screen_drawBlock_18 : decode b_Screen_drawBlock 18 = .ok (.return_, 1) := by decide +kernel
theorem d_Screen_drawPlain_0 : decode b_Screen_drawPlain 0 = .ok (.aload_n 0, 1) := by decide +kernel
theorem d_Screen_drawPlain_1 : decode b_Screen_drawPlain 1 = .ok (.iload_n 1, 1) := by decide +kernel
theorem d_Screen_drawPlain_2 : decode b_Screen_drawPlain 2 = .ok (.putfield 126, 3) := by decide +kernel
theorem d_Screen_drawPlain_5 : decode b_Screen_drawPlain 5 = .ok (.aload_n 0, 1) := by decide +kernel
theorem d_Screen_drawPlain_6 : decode b_Screen_drawPlain 6 = .ok (.iconst 0, 1) := by decide +kernel
theorem d_Screen_drawPlain_7 : decode b_Screen_drawPlain 7 = .ok (.putfield 129, 3) := by decide +kernel
theorem d_Screen_drawPlain_10 : decode b_Screen_drawPlain 10 = .ok (.return_, 1) := by decide +kernel
theorem d_Screen_overlayAt_0 : decode b_Screen_overlayAt 0 = .ok (.iload_n 1, 1) := by decide +kernel
theorem d_Screen_overlayAt_1 : decode b_Screen_overlayAt 1 = .ok (.ifCond .ne 13, 3) := by decide +kernel
theorem d_Screen_overlayAt_4 : decode b_Screen_overlayAt 4 = .ok (.iload_n 2, 1) := by decide +kernel
theorem d_Screen_overlayAt_5 : decode b_Screen_overlayAt 5 = .ok (.bipush 8, 2) := by decide +kernel
theorem d_Screen_overlayAt_7 : decode b_Screen_overlayAt 7 = .ok (.if_icmp .ge 7, 3) := by decide +kernel
theorem d_Screen_overlayAt_10 : decode b_Screen_overlayAt 10 = .ok (.iconst 1, 1) := by decide +kernel
theorem d_Screen_overlayAt_11 : decode b_Screen_overlayAt 11 = .ok (.goto 4, 3) := by decide +kernel
theorem d_Screen_overlayAt_14 : decode b_Screen_overlayAt 14 = .ok (.iconst 0, 1) := by decide +kernel
theorem d_Screen_overlayAt_15 : decode b_Screen_overlayAt 15 = .ok (.istore_n 3, 1) := by decide +kernel
theorem d_Screen_overlayAt_16 : decode b_Screen_overlayAt 16 = .ok (.aload_n 0, 1) := by decide +kernel
theorem d_Screen_overlayAt_17 : decode b_Screen_overlayAt 17 = .ok (.ifnull 7, 3) := by decide +kernel
theorem d_Screen_overlayAt_20 : decode b_Screen_overlayAt 20 = .ok (.iload_n 3, 1) := by decide +kernel
theorem d_Screen_overlayAt_21 : decode b_Screen_overlayAt 21 = .ok (.ifCond .eq 7, 3) := by decide +kernel
theorem d_Screen_overlayAt_24 : decode b_Screen_overlayAt 24 = .ok (.iconst 0, 1) := by decide +kernel
theorem d_Screen_overlayAt_25 : decode b_Screen_overlayAt 25 = .ok (.goto 9, 3) := by decide +kernel
theorem d_Screen_overlayAt_28 : decode b_Screen_overlayAt 28 = .ok (.aload_n 0, 1) := by decide +kernel
theorem d_Screen_overlayAt_29 : decode b_Screen_overlayAt 29 = .ok (.iload_n 1, 1) := by decide +kernel
theorem d_Screen_overlayAt_30 : decode b_Screen_overlayAt 30 = .ok (.iload_n 2, 1) := by decide +kernel
theorem d_Screen_overlayAt_31 : decode b_Screen_overlayAt 31 = .ok (.invokevirtual 73, 3) := by decide +kernel
theorem d_Screen_overlayAt_34 : decode b_Screen_overlayAt 34 = .ok (.ireturn, 1) := by decide +kernel
theorem d_Page_overlayAt_0 : decode b_Page_overlayAt 0 = .ok (.iload_n 1, 1) := by decide +kernel
theorem d_Page_overlayAt_1 : decode b_Page_overlayAt 1 = .ok (.iload_n 2, 1) := by decide +kernel
theorem d_Page_overlayAt_2 : decode b_Page_overlayAt 2 = .ok (.invokestatic 50, 3) := by decide +kernel
theorem d_Page_overlayAt_5 : decode b_Page_overlayAt 5 = .ok (.ifCond .eq 17, 3) := by decide +kernel
theorem d_Page_overlayAt_8 : decode b_Page_overlayAt 8 = .ok (.aload_n 0, 1) := by decide +kernel
theorem d_Page_overlayAt_9 : decode b_Page_overlayAt 9 = .ok (.getfield 15, 3) := by decide +kernel
theorem d_Page_overlayAt_12 : decode b_Page_overlayAt 12 = .ok (.iload_n 1, 1) := by decide +kernel
theorem d_Page_overlayAt_13 : decode b_Page_overlayAt 13 = .ok (.bipush 20, 2) := by decide +kernel
theorem d_Page_overlayAt_15 : decode b_Page_overlayAt 15 = .ok (.imul, 1) := by decide +kernel
theorem d_Page_overlayAt_16 : decode b_Page_overlayAt 16 = .ok (.iload_n 2, 1) := by decide +kernel
theorem d_Page_overlayAt_17 : decode b_Page_overlayAt 17 = .ok (.iadd, 1) := by decide +kernel
theorem d_Page_overlayAt_18 : decode b_Page_overlayAt 18 = .ok (.iaload, 1) := by decide +kernel
theorem d_Page_overlayAt_19 : decode b_Page_overlayAt 19 = .ok (.goto 4, 3) := by decide +kernel
theorem d_Page_overlayAt_22 : decode b_Page_overlayAt 22 = .ok (.iconst 0, 1) := by decide +kernel
theorem d_Page_overlayAt_23 : decode b_Page_overlayAt 23 = .ok (.ireturn, 1) := by decide +kernel
theorem d_Screen_drawLetter_0 : decode b_Screen_drawLetter 0 = .ok (.iload_n 2, 1) := by decide +kernel
theorem d_Screen_drawLetter_1 : decode b_Screen_drawLetter 1 = .ok (.ifCond .eq 11, 3) := by decide +kernel
theorem d_Screen_drawLetter_4 : decode b_Screen_drawLetter 4 = .ok (.aload_n 0, 1) := by decide +kernel
theorem d_Screen_drawLetter_5 : decode b_Screen_drawLetter 5 = .ok (.iload_n 2, 1) := by decide +kernel
theorem d_Screen_drawLetter_6 : decode b_Screen_drawLetter 6 = .ok (.invokevirtual 114, 3) := by decide +kernel
theorem d_Screen_drawLetter_9 : decode b_Screen_drawLetter 9 = .ok (.goto 64, 3) := by decide +kernel
theorem d_Screen_drawLetter_12 : decode b_Screen_drawLetter 12 = .ok (.aload_n 0, 1) := by decide +kernel
theorem d_Screen_drawLetter_13 : decode b_Screen_drawLetter 13 = .ok (.getfield 12, 3) := by decide +kernel
theorem d_Screen_drawLetter_16 : decode b_Screen_drawLetter 16 = .ok (.getfield 101, 3) := by decide +kernel
theorem d_Screen_drawLetter_19 : decode b_Screen_drawLetter 19 = .ok (.ifCond .eq 45, 3) := by decide +kernel
theorem d_Screen_drawLetter_22 : decode b_Screen_drawLetter 22 = .ok (.iload_n 1, 1) := by decide +kernel
theorem d_Screen_drawLetter_23 : decode b_Screen_drawLetter 23 = .ok (.bipush 64, 2) := by decide +kernel
theorem d_Screen_drawLetter_25 : decode b_Screen_drawLetter 25 = .ok (.if_icmp .lt 9, 3) := by decide +kernel
theorem d_Screen_drawLetter_28 : decode b_Screen_drawLetter 28 = .ok (.iload_n 1, 1) := by decide +kernel
theorem d_Screen_drawLetter_29 : decode b_Screen_drawLetter 29 = .ok (.bipush 95, 2) := by decide +kernel
theorem d_Screen_drawLetter_31 : decode b_Screen_drawLetter 31 = .ok (.if_icmp .le 33, 3) := by decide +kernel
theorem d_Screen_drawLetter_34 : decode b_Screen_drawLetter 34 = .ok (.aload_n 0, 1) := by decide +kernel
theorem d_Screen_drawLetter_35 : decode b_Screen_drawLetter 35 = .ok (.getfield 12, 3) := by decide +kernel
theorem d_Screen_drawLetter_38 : decode b_Screen_drawLetter 38 = .ok (.iload_n 1, 1) := by decide +kernel
theorem d_Screen_drawLetter_39 : decode b_Screen_drawLetter 39 = .ok (.aload_n 0, 1) := by decide +kernel
theorem d_Screen_drawLetter_40 : decode b_Screen_drawLetter 40 = .ok (.getfield 12, 3) := by decide +kernel
theorem d_Screen_drawLetter_43 : decode b_Screen_drawLetter 43 = .ok (.getfield 117, 3) := by decide +kernel
theorem d_Screen_drawLetter_46 : decode b_Screen_drawLetter 46 = .ok (.invokevirtual 120, 3) := by decide +kernel
theorem d_Screen_drawLetter_49 : decode b_Screen_drawLetter 49 = .ok (.aload_n 0, 1) := by decide +kernel
theorem d_Screen_drawLetter_50 : decode b_Screen_drawLetter 50 = .ok (.iload_n 1, 1) := by decide +kernel
theorem d_Screen_drawLetter_51 : decode b_Screen_drawLetter 51 = .ok (.aload_n 0, 1) := by decide +kernel
theorem d_Screen_drawLetter_52 : decode b_Screen_drawLetter 52 = .ok (.getfield 12, 3) := by decide +kernel
theorem d_Screen_drawLetter_55 : decode b_Screen_drawLetter 55 = .ok (.getfield 117, 3) := by decide +kernel
theorem d_Screen_drawLetter_58 : decode b_Screen_drawLetter 58 = .ok (.invokevirtual 110, 3) := by decide +kernel
theorem d_Screen_drawLetter_61 : decode b_Screen_drawLetter 61 = .ok (.goto 12, 3) := by decide +kernel
theorem d_Screen_drawLetter_64 : decode b_Screen_drawLetter 64 = .ok (.aload_n 0, 1) := by decide +kernel
theorem d_Screen_drawLetter_65 : decode b_Screen_drawLetter 65 = .ok (.iload_n 1, 1) := by decide +kernel
theorem d_Screen_drawLetter_66 : decode b_Screen_drawLetter 66 = .ok (.iload_n 3, 1) := by decide +kernel
theorem d_Screen_drawLetter_67 : decode b_Screen_drawLetter 67 = .ok (.invokestatic 123, 3) := by decide +kernel
theorem d_Screen_drawLetter_70 : decode b_Screen_drawLetter 70 = .ok (.invokevirtual 114, 3) := by decide +kernel
theorem d_Screen_drawLetter_73 : decode b_Screen_drawLetter 73 = .ok (.return_, 1) := by decide +kernel
theorem d_Screen_letterOfSet_0 : decode b_Screen_letterOfSet 0 = .ok (.iload_n 0, 1) := by decide +kernel
theorem d_Screen_letterOfSet_1 : decode b_Screen_letterOfSet 1 = .ok (.invokestatic 155, 3) := by decide +kernel
theorem d_Screen_letterOfSet_4 : decode b_Screen_letterOfSet 4 = .ok (.istore_n 2, 1) := by decide +kernel
theorem d_Screen_letterOfSet_5 : decode b_Screen_letterOfSet 5 = .ok (.iload_n 1, 1) := by decide +kernel
theorem d_Screen_letterOfSet_6 : decode b_Screen_letterOfSet 6 = .ok (.ifCond .eq 8, 3) := by decide +kernel
theorem d_Screen_letterOfSet_9 : decode b_Screen_letterOfSet 9 = .ok (.iload_n 2, 1) := by decide +kernel
theorem d_Screen_letterOfSet_10 : decode b_Screen_letterOfSet 10 = .ok (.iconst (-1), 1) := by decide +kernel
theorem d_Screen_letterOfSet_11 : decode b_Screen_letterOfSet 11 = .ok (.if_icmp .ne 7, 3) := by decide +kernel
theorem d_Screen_letterOfSet_14 : decode b_Screen_letterOfSet 14 = .ok (.iload_n 0, 1) := by decide +kernel
theorem d_Screen_letterOfSet_15 : decode b_Screen_letterOfSet 15 = .ok (.goto 13, 3) := by decide +kernel
theorem d_Screen_letterOfSet_18 : decode b_Screen_letterOfSet 18 = .ok (.sipush 512, 3) := by decide +kernel
theorem d_Screen_letterOfSet_21 : decode b_Screen_letterOfSet 21 = .ok (.bipush 16, 2) := by decide +kernel
theorem d_Screen_letterOfSet_23 : decode b_Screen_letterOfSet 23 = .ok (.iload_n 1, 1) := by decide +kernel
theorem d_Screen_letterOfSet_24 : decode b_Screen_letterOfSet 24 = .ok (.imul, 1) := by decide +kernel
theorem d_Screen_letterOfSet_25 : decode b_Screen_letterOfSet 25 = .ok (.iadd, 1) := by decide +kernel
theorem d_Screen_letterOfSet_26 : decode b_Screen_letterOfSet 26 = .ok (.iload_n 2, 1) := by decide +kernel
theorem d_Screen_letterOfSet_27 : decode b_Screen_letterOfSet 27 = .ok (.iadd, 1) := by decide +kernel
theorem d_Screen_letterOfSet_28 : decode b_Screen_letterOfSet 28 = .ok (.ireturn, 1) := by decide +kernel
theorem d_Screen_indexInSet_0 : decode b_Screen_indexInSet 0 = .ok (.iload_n 0, 1) := by decide +kernel
theorem d_Screen_indexInSet_1 : decode b_Screen_indexInSet 1 = .ok (.bipush 35, 2) := by decide +kernel
theorem d_Screen_indexInSet_3 : decode b_Screen_indexInSet 3 = .ok (.if_icmp .eq 9, 3) := by decide +kernel
theorem d_Screen_indexInSet_6 : decode b_Screen_indexInSet 6 = .ok (.iload_n 0, 1) := by decide +kernel
theorem d_Screen_indexInSet_7 : decode b_Screen_indexInSet 7 = .ok (.bipush 36, 2) := by decide +kernel
theorem d_Screen_indexInSet_9 : decode b_Screen_indexInSet 9 = .ok (.if_icmp .ne 8, 3) := by decide +kernel
theorem d_Screen_indexInSet_12 : decode b_Screen_indexInSet 12 = .ok (.iload_n 0, 1) := by decide +kernel
theorem d_Screen_indexInSet_13 : decode b_Screen_indexInSet 13 = .ok (.bipush 35, 2) := by decide +kernel
theorem d_Screen_indexInSet_15 : decode b_Screen_indexInSet 15 = .ok (.isub, 1) := by decide +kernel
theorem d_Screen_indexInSet_16 : decode b_Screen_indexInSet 16 = .ok (.ireturn, 1) := by decide +kernel
theorem d_Screen_indexInSet_17 : decode b_Screen_indexInSet 17 = .ok (.iload_n 0, 1) := by decide +kernel
theorem d_Screen_indexInSet_18 : decode b_Screen_indexInSet 18 = .ok (.bipush 64, 2) := by decide +kernel
theorem d_Screen_indexInSet_20 : decode b_Screen_indexInSet 20 = .ok (.if_icmp .ne 5, 3) := by decide +kernel
theorem d_Screen_indexInSet_23 : decode b_Screen_indexInSet 23 = .ok (.iconst 2, 1) := by decide +kernel
theorem d_Screen_indexInSet_24 : decode b_Screen_indexInSet 24 = .ok (.ireturn, 1) := by decide +kernel
theorem d_Screen_indexInSet_25 : decode b_Screen_indexInSet 25 = .ok (.iload_n 0, 1) := by decide +kernel
theorem d_Screen_indexInSet_26 : decode b_Screen_indexInSet 26 = .ok (.bipush 91, 2) := by decide +kernel
theorem d_Screen_indexInSet_28 : decode b_Screen_indexInSet 28 = .ok (.if_icmp .lt 14, 3) := by decide +kernel
theorem d_Screen_indexInSet_31 : decode b_Screen_indexInSet 31 = .ok (.iload_n 0, 1) := by decide +kernel
theorem d_Screen_indexInSet_32 : decode b_Screen_indexInSet 32 = .ok (.bipush 96, 2) := by decide +kernel
theorem d_Screen_indexInSet_34 : decode b_Screen_indexInSet 34 = .ok (.if_icmp .gt 8, 3) := by decide +kernel
theorem d_Screen_indexInSet_37 : decode b_Screen_indexInSet 37 = .ok (.iload_n 0, 1) := by decide +kernel
theorem d_Screen_indexInSet_38 : decode b_Screen_indexInSet 38 = .ok (.bipush 88, 2) := by decide +kernel
theorem d_Screen_indexInSet_40 : decode b_Screen_indexInSet 40 = .ok (.isub, 1) := by decide +kernel
theorem d_Screen_indexInSet_41 : decode b_Screen_indexInSet 41 = .ok (.ireturn, 1) := by decide +kernel
theorem d_Screen_indexInSet_42 : decode b_Screen_indexInSet 42 = .ok (.iload_n 0, 1) := by decide +kernel
theorem d_Screen_indexInSet_43 : decode b_Screen_indexInSet 43 = .ok (.bipush 123, 2) := by decide +kernel
theorem d_Screen_indexInSet_45 : decode b_Screen_indexInSet 45 = .ok (.if_icmp .lt 16, 3) := by decide +kernel
theorem d_Screen_indexInSet_48 : decode b_Screen_indexInSet 48 = .ok (.iload_n 0, 1) := by decide +kernel
theorem d_Screen_indexInSet_49 : decode b_Screen_indexInSet 49 = .ok (.bipush 126, 2) := by decide +kernel
theorem d_Screen_indexInSet_51 : decode b_Screen_indexInSet 51 = .ok (.if_icmp .gt 10, 3) := by decide +kernel
theorem d_Screen_indexInSet_54 : decode b_Screen_indexInSet 54 = .ok (.iload_n 0, 1) := by decide +kernel
theorem d_Screen_indexInSet_55 : decode b_Screen_indexInSet 55 = .ok (.bipush 114, 2) := by decide +kernel
theorem d_Screen_indexInSet_57 : decode b_Screen_indexInSet 57 = .ok (.isub, 1) := by decide +kernel
theorem d_Screen_indexInSet_58 : decode b_Screen_indexInSet 58 = .ok (.goto 4, 3) := by decide +kernel
theorem d_Screen_indexInSet_61 : decode b_Screen_indexInSet 61 = .ok (.iconst (-1), 1) := by decide +kernel
theorem d_Screen_indexInSet_62 : decode b_Screen_indexInSet 62 = .ok (.ireturn, 1) := by decide +kernel
theorem d_Screen_drawStates_0 : decode b_Screen_drawStates 0 = .ok (.aload_n 0, 1) := by decide +kernel
theorem d_Screen_drawStates_1 : decode b_Screen_drawStates 1 = .ok (.getfield 12, 3) := by decide +kernel
theorem d_Screen_drawStates_4 : decode b_Screen_drawStates 4 = .ok (.getfield 132, 3) := by decide +kernel
theorem d_Screen_drawStates_7 : decode b_Screen_drawStates 7 = .ok (.ifCond .eq 14, 3) := by decide +kernel
theorem d_Screen_drawStates_10 : decode b_Screen_drawStates 10 = .ok (.aload_n 0, 1) := by decide +kernel
theorem d_Screen_drawStates_11 : decode b_Screen_drawStates 11 = .ok (.getfield 18, 3) := by decide +kernel
theorem d_Screen_drawStates_14 : decode b_Screen_drawStates 14 = .ok (.ifCond .ne 7, 3) := by decide +kernel
theorem d_Screen_drawStates_17 : decode b_Screen_drawStates 17 = .ok (.iconst 1, 1) := by decide +kernel
theorem d_Screen_drawStates_18 : decode b_Screen_drawStates 18 = .ok (.goto 4, 3) := by decide +kernel
theorem d_Screen_drawStates_21 : decode b_Screen_drawStates 21 = .ok (.iconst 0, 1) := by decide +kernel
theorem d_Screen_drawStates_22 : decode b_Screen_drawStates 22 = .ok (.istore_n 2, 1) := by decide +kernel
theorem d_Screen_drawStates_23 : decode b_Screen_drawStates 23 = .ok (.iload_n 2, 1) := by decide +kernel
theorem d_Screen_drawStates_24 : decode b_Screen_drawStates 24 = .ok (.ifCond .ne 23, 3) := by decide +kernel
theorem d_Screen_drawStates_27 : decode b_Screen_drawStates 27 = .ok (.aload_n 0, 1) := by decide +kernel
theorem d_Screen_drawStates_28 : decode b_Screen_drawStates 28 = .ok (.getfield 12, 3) := by decide +kernel
theorem d_Screen_drawStates_31 : decode b_Screen_drawStates 31 = .ok (.getfield 135, 3) := by decide +kernel
theorem d_Screen_drawStates_34 : decode b_Screen_drawStates 34 = .ok (.ifCond .eq 19, 3) := by decide +kernel
theorem d_Screen_drawStates_37 : decode b_Screen_drawStates 37 = .ok (.aload_n 0, 1) := by decide +kernel
theorem d_Screen_drawStates_38 : decode b_Screen_drawStates 38 = .ok (.getfield 22, 3) := by decide +kernel
theorem d_Screen_drawStates_41 : decode b_Screen_drawStates 41 = .ok (.getfield 138, 3) := by decide +kernel
theorem d_Screen_drawStates_44 : decode b_Screen_drawStates 44 = .ok (.ifCond .ne 9, 3) := by decide +kernel
theorem d_Screen_drawStates_47 : decode b_Screen_drawStates 47 = .ok (.aload_n 0, 1) := by decide +kernel
theorem d_Screen_drawStates_48 : decode b_Screen_drawStates 48 = .ok (.bipush 32, 2) := by decide +kernel
theorem d_Screen_drawStates_50 : decode b_Screen_drawStates 50 = .ok (.invokevirtual 114, 3) := by decide +kernel
theorem d_Screen_drawStates_53 : decode b_Screen_drawStates 53 = .ok (.aload_n 0, 1) := by decide +kernel
theorem d_Screen_drawStates_54 : decode b_Screen_drawStates 54 = .ok (.aload_n 0, 1) := by decide +kernel
theorem d_Screen_drawStates_55 : decode b_Screen_drawStates 55 = .ok (.getfield 12, 3) := by decide +kernel
theorem d_Screen_drawStates_58 : decode b_Screen_drawStates 58 = .ok (.getfield 141, 3) := by decide +kernel
theorem d_Screen_drawStates_61 : decode b_Screen_drawStates 61 = .ok (.putfield 144, 3) := by decide +kernel
theorem d_Screen_drawStates_64 : decode b_Screen_drawStates 64 = .ok (.aload_n 0, 1) := by decide +kernel
theorem d_Screen_drawStates_65 : decode b_Screen_drawStates 65 = .ok (.aload_n 0, 1) := by decide +kernel
theorem d_Screen_drawStates_66 : decode b_Screen_drawStates 66 = .ok (.getfield 12, 3) := by decide +kernel
theorem d_Screen_drawStates_69 : decode b_Screen_drawStates 69 = .ok (.getfield 145, 3) := by decide +kernel
theorem d_Screen_drawStates_72 : decode b_Screen_drawStates 72 = .ok (.putfield 148, 3) := by decide +kernel
theorem d_Screen_drawStates_75 : decode b_Screen_drawStates 75 = .ok (.aload_n 0, 1) := by decide +kernel
theorem d_Screen_drawStates_76 : decode b_Screen_drawStates 76 = .ok (.dup, 1) := by decide +kernel
theorem d_Screen_drawStates_77 : decode b_Screen_drawStates 77 = .ok (.getfield 129, 3) := by decide +kernel
theorem d_Screen_drawStates_80 : decode b_Screen_drawStates 80 = .ok (.aload_n 0, 1) := by decide +kernel
theorem d_Screen_drawStates_81 : decode b_Screen_drawStates 81 = .ok (.getfield 12, 3) := by decide +kernel
theorem d_Screen_drawStates_84 : decode b_Screen_drawStates 84 = .ok (.invokevirtual 149, 3) := by decide +kernel
theorem d_Screen_drawStates_87 : decode b_Screen_drawStates 87 = .ok (.iadd, 1) := by decide +kernel
theorem d_Screen_drawStates_88 : decode b_Screen_drawStates 88 = .ok (.putfield 129, 3) := by decide +kernel
theorem d_Screen_drawStates_91 : decode b_Screen_drawStates 91 = .ok (.aload_n 0, 1) := by decide +kernel
theorem d_Screen_drawStates_92 : decode b_Screen_drawStates 92 = .ok (.getfield 12, 3) := by decide +kernel
theorem d_Screen_drawStates_95 : decode b_Screen_drawStates 95 = .ok (.getfield 152, 3) := by decide +kernel
theorem d_Screen_drawStates_98 : decode b_Screen_drawStates 98 = .ok (.ifCond .eq 23, 3) := by decide +kernel
theorem d_Screen_drawStates_101 : decode b_Screen_drawStates 101 = .ok (.iload_n 1, 1) := by decide +kernel
theorem d_Screen_drawStates_102 : decode b_Screen_drawStates 102 = .ok (.ifCond .le 19, 3) := by decide +kernel
theorem d_Screen_drawStates_105 : decode b_Screen_drawStates 105 = .ok (.iload_n 1, 1) := by decide +kernel
theorem d_Screen_drawStates_106 : decode b_Screen_drawStates 106 = .ok (.bipush 7, 2) := by decide +kernel
theorem d_Screen_drawStates_108 : decode b_Screen_drawStates 108 = .ok (.if_icmp .ge 13, 3) := by decide +kernel
theorem d_Screen_drawStates_111 : decode b_Screen_drawStates 111 = .ok (.aload_n 0, 1) := by decide +kernel
theorem d_Screen_drawStates_112 : decode b_Screen_drawStates 112 = .ok (.dup, 1) := by decide +kernel
theorem d_Screen_drawStates_113 : decode b_Screen_drawStates 113 = .ok (.getfield 129, 3) := by decide +kernel
theorem d_Screen_drawStates_116 : decode b_Screen_drawStates 116 = .ok (.iconst 4, 1) := by decide +kernel
theorem d_Screen_drawStates_117 : decode b_Screen_drawStates 117 = .ok (.iadd, 1) := by decide +kernel
theorem d_Screen_drawStates_118 : decode b_Screen_drawStates 118 = .ok (.putfield 129, 3) := by decide +kernel
theorem d_Screen_drawStates_121 : decode b_Screen_drawStates 121 = .ok (.return_, 1) := by decide +kernel
theorem d_States_sum_0 : decode b_States_sum 0 = .ok (.aload_n 0, 1) := by decide +kernel
theorem d_States_sum_1 : decode b_States_sum 1 = .ok (.getfield 22, 3) := by decide +kernel
theorem d_States_sum_4 : decode b_States_sum 4 = .ok (.ifCond .eq 8, 3) := by decide +kernel
theorem d_States_sum_7 : decode b_States_sum 7 = .ok (.bipush 16, 2) := by decide +kernel
theorem d_States_sum_9 : decode b_States_sum 9 = .ok (.goto 4, 3) := by decide +kernel
theorem d_States_sum_12 : decode b_States_sum 12 = .ok (.iconst 0, 1) := by decide +kernel
theorem d_States_sum_13 : decode b_States_sum 13 = .ok (.aload_n 0, 1) := by decide +kernel
theorem d_States_sum_14 : decode b_States_sum 14 = .ok (.getfield 25, 3) := by decide +kernel
theorem d_States_sum_17 : decode b_States_sum 17 = .ok (.ifCond .eq 8, 3) := by decide +kernel
theorem d_States_sum_20 : decode b_States_sum 20 = .ok (.bipush 32, 2) := by decide +kernel
theorem d_States_sum_22 : decode b_States_sum 22 = .ok (.goto 4, 3) := by decide +kernel
theorem d_States_sum_25 : decode b_States_sum 25 = .ok (.iconst 0, 1) := by decide +kernel
theorem d_States_sum_26 : decode b_States_sum 26 = .ok (.iadd, 1) := by decide +kernel
theorem d_States_sum_27 : decode b_States_sum 27 = .ok (.aload_n 0, 1) := by decide +kernel
theorem d_States_sum_28 : decode b_States_sum 28 = .ok (.getfield 28, 3) := by decide +kernel
theorem d_States_sum_31 : decode b_States_sum 31 = .ok (.ifCond .eq 8, 3) := by decide +kernel
theorem d_States_sum_34 : decode b_States_sum 34 = .ok (.bipush 64, 2) := by decide +kernel
theorem d_States_sum_36 : decode b_States_sum 36 = .ok (.goto 4, 3) := by decide +kernel
theorem d_States_sum_39 : decode b_States_sum 39 = .ok (.iconst 0, 1) := by decide +kernel
theorem d_States_sum_40 : decode b_States_sum 40 = .ok (.iadd, 1) := by decide +kernel
theorem d_States_sum_41 : decode b_States_sum 41 = .ok (.ireturn, 1) := by decide +kernel
theorem d_States_doAfter_0 : decode b_States_doAfter 0 = .ok (.iload_n 1, 1) := by decide +kernel
theorem d_States_doAfter_1 : decode b_States_doAfter 1 = .ok (.bipush 7, 2) := by decide +kernel
theorem d_States_doAfter_3 : decode b_States_doAfter 3 = .ok (.if_icmp .gt 12, 3) := by decide +kernel
theorem d_States_doAfter_6 : decode b_States_doAfter 6 = .ok (.aload_n 0, 1) := by decide +kernel
theorem d_States_doAfter_7 : decode b_States_doAfter 7 = .ok (.iload_n 1, 1) := by decide +kernel
theorem d_States_doAfter_8 : decode b_States_doAfter 8 = .ok (.iconst 0, 1) := by decide +kernel
theorem d_States_doAfter_9 : decode b_States_doAfter 9 = .ok (.invokevirtual 54, 3) := by decide +kernel
theorem d_States_doAfter_12 : decode b_States_doAfter 12 = .ok (.goto 94, 3) := by decide +kernel
theorem d_States_doAfter_15 : decode b_States_doAfter 15 = .ok (.iload_n 1, 1) := by decide +kernel
theorem d_States_doAfter_16 : decode b_States_doAfter 16 = .ok (.bipush 16, 2) := by decide +kernel
theorem d_States_doAfter_18 : decode b_States_doAfter 18 = .ok (.if_icmp .lt 21, 3) := by decide +kernel
theorem d_States_doAfter_21 : decode b_States_doAfter 21 = .ok (.iload_n 1, 1) := by decide +kernel
theorem d_States_doAfter_22 : decode b_States_doAfter 22 = .ok (.bipush 23, 2) := by decide +kernel
theorem d_States_doAfter_24 : decode b_States_doAfter 24 = .ok (.if_icmp .gt 15, 3) := by decide +kernel
theorem d_States_doAfter_27 : decode b_States_doAfter 27 = .ok (.aload_n 0, 1) := by decide +kernel
theorem d_States_doAfter_28 : decode b_States_doAfter 28 = .ok (.iload_n 1, 1) := by decide +kernel
theorem d_States_doAfter_29 : decode b_States_doAfter 29 = .ok (.bipush 16, 2) := by decide +kernel
theorem d_States_doAfter_31 : decode b_States_doAfter 31 = .ok (.isub, 1) := by decide +kernel
theorem d_States_doAfter_32 : decode b_States_doAfter 32 = .ok (.iconst 1, 1) := by decide +kernel
theorem d_States_doAfter_33 : decode b_States_doAfter 33 = .ok (.invokevirtual 54, 3) := by decide +kernel
theorem d_States_doAfter_36 : decode b_States_doAfter 36 = .ok (.goto 70, 3) := by decide +kernel
theorem d_States_doAfter_39 : decode b_States_doAfter 39 = .ok (.iload_n 1, 1) := by decide +kernel
theorem d_States_doAfter_40 : decode b_States_doAfter 40 = .ok (.bipush 8, 2) := by decide +kernel
theorem d_States_doAfter_42 : decode b_States_doAfter 42 = .ok (.if_icmp .ne 11, 3) := by decide +kernel
theorem d_States_doAfter_45 : decode b_States_doAfter 45 = .ok (.aload_n 0, 1) := by decide +kernel
theorem d_States_doAfter_46 : decode b_States_doAfter 46 = .ok (.iconst 1, 1) := by decide +kernel
theorem d_States_doAfter_47 : decode b_States_doAfter 47 = .ok (.putfield 22, 3) := by decide +kernel
theorem d_States_doAfter_50 : decode b_States_doAfter 50 = .ok (.goto 56, 3) := by decide +kernel
theorem d_States_doAfter_53 : decode b_States_doAfter 53 = .ok (.iload_n 1, 1) := by decide +kernel
theorem d_States_doAfter_54 : decode b_States_doAfter 54 = .ok (.bipush 10, 2) := by decide +kernel
theorem d_States_doAfter_56 : decode b_States_doAfter 56 = .ok (.if_icmp .ne 11, 3) := by decide +kernel
theorem d_States_doAfter_59 : decode b_States_doAfter 59 = .ok (.aload_n 0, 1) := by decide +kernel
theorem d_States_doAfter_60 : decode b_States_doAfter 60 = .ok (.iconst 0, 1) := by decide +kernel
theorem d_States_doAfter_61 : decode b_States_doAfter 61 = .ok (.putfield 28, 3) := by decide +kernel
theorem d_States_doAfter_64 : decode b_States_doAfter 64 = .ok (.goto 42, 3) := by decide +kernel
theorem d_States_doAfter_67 : decode b_States_doAfter 67 = .ok (.iload_n 1, 1) := by decide +kernel
theorem d_States_doAfter_68 : decode b_States_doAfter 68 = .ok (.bipush 11, 2) := by decide +kernel
theorem d_States_doAfter_70 : decode b_States_doAfter 70 = .ok (.if_icmp .ne 11, 3) := by decide +kernel
theorem d_States_doAfter_73 : decode b_States_doAfter 73 = .ok (.aload_n 0, 1) := by decide +kernel
theorem d_States_doAfter_74 : decode b_States_doAfter 74 = .ok (.iconst 1, 1) := by decide +kernel
theorem d_States_doAfter_75 : decode b_States_doAfter 75 = .ok (.putfield 28, 3) := by decide +kernel
theorem d_States_doAfter_78 : decode b_States_doAfter 78 = .ok (.goto 28, 3) := by decide +kernel
theorem d_States_doAfter_81 : decode b_States_doAfter 81 = .ok (.iload_n 1, 1) := by decide +kernel
theorem d_States_doAfter_82 : decode b_States_doAfter 82 = .ok (.bipush 13, 2) := by decide +kernel
theorem d_States_doAfter_84 : decode b_States_doAfter 84 = .ok (.if_icmp .ne 11, 3) := by decide +kernel
theorem d_States_doAfter_87 : decode b_States_doAfter 87 = .ok (.aload_n 0, 1) := by decide +kernel
theorem d_States_doAfter_88 : decode b_States_doAfter 88 = .ok (.iconst 1, 1) := by decide +kernel
theorem d_States_doAfter_89 : decode b_States_doAfter 89 = .ok (.invokevirtual 50, 3) := by decide +kernel
theorem d_States_doAfter_92 : decode b_States_doAfter 92 = .ok (.goto 14, 3) := by decide +kernel
theorem d_States_doAfter_95 : decode b_States_doAfter 95 = .ok (.iload_n 1, 1) := by decide +kernel
theorem d_States_doAfter_96 : decode b_States_doAfter 96 = .ok (.bipush 31, 2) := by decide +kernel
theorem d_States_doAfter_98 : decode b_States_doAfter 98 = .ok (.if_icmp .ne 8, 3) := by decide +kernel
theorem d_States_doAfter_101 : decode b_States_doAfter 101 = .ok (.aload_n 0, 1) := by decide +kernel
theorem d_States_doAfter_102 : decode b_States_doAfter 102 = .ok (.iconst 0, 1) := by decide +kernel
theorem d_States_doAfter_103 : decode b_States_doAfter 103 = .ok (.putfield 37, 3) := by decide +kernel
theorem d_States_doAfter_106 : decode b_States_doAfter 106 = .ok (.return_, 1) := by decide +kernel
theorem d_States_takeColour_0 : decode b_States_takeColour 0 = .ok (.aload_n 0, 1) := by decide +kernel
theorem d_States_takeColour_1 : decode b_States_takeColour 1 = .ok (.iload_n 1, 1) := by decide +kernel
theorem d_States_takeColour_2 : decode b_States_takeColour 2 = .ok (.putfield 9, 3) := by decide +kernel
theorem d_States_takeColour_5 : decode b_States_takeColour 5 = .ok (.aload_n 0, 1) := by decide +kernel
theorem d_States_takeColour_6 : decode b_States_takeColour 6 = .ok (.iload_n 2, 1) := by decide +kernel
theorem d_States_takeColour_7 : decode b_States_takeColour 7 = .ok (.invokevirtual 57, 3) := by decide +kernel
theorem d_States_takeColour_10 : decode b_States_takeColour 10 = .ok (.aload_n 0, 1) := by decide +kernel
theorem d_States_takeColour_11 : decode b_States_takeColour 11 = .ok (.iconst 0, 1) := by decide +kernel
theorem d_States_takeColour_12 : decode b_States_takeColour 12 = .ok (.putfield 25, 3) := by decide +kernel
theorem d_States_takeColour_15 : decode b_States_takeColour 15 = .ok (.return_, 1) := by decide +kernel
theorem d_States_turnMosaic_0 : decode b_States_turnMosaic 0 = .ok (.aload_n 0, 1) := by decide +kernel
theorem d_States_turnMosaic_1 : decode b_States_turnMosaic 1 = .ok (.getfield 18, 3) := by decide +kernel
theorem d_States_turnMosaic_4 : decode b_States_turnMosaic 4 = .ok (.iload_n 1, 1) := by decide +kernel
theorem d_States_turnMosaic_5 : decode b_States_turnMosaic 5 = .ok (.if_icmp .eq 10, 3) := by decide +kernel
theorem d_States_turnMosaic_8 : decode b_States_turnMosaic 8 = .ok (.aload_n 0, 1) := by decide +kernel
theorem d_States_turnMosaic_9 : decode b_States_turnMosaic 9 = .ok (.bipush 32, 2) := by decide +kernel
theorem d_States_turnMosaic_11 : decode b_States_turnMosaic 11 = .ok (.iconst 0, 1) := by decide +kernel
theorem d_States_turnMosaic_12 : decode b_States_turnMosaic 12 = .ok (.invokevirtual 40, 3) := by decide +kernel
theorem d_States_turnMosaic_15 : decode b_States_turnMosaic 15 = .ok (.aload_n 0, 1) := by decide +kernel
theorem d_States_turnMosaic_16 : decode b_States_turnMosaic 16 = .ok (.iload_n 1, 1) := by decide +kernel
theorem d_States_turnMosaic_17 : decode b_States_turnMosaic 17 = .ok (.putfield 18, 3) := by decide +kernel
theorem d_States_turnMosaic_20 : decode b_States_turnMosaic 20 = .ok (.return_, 1) := by decide +kernel
theorem d_Screen_turnToLowerHalf_0 : decode b_Screen_turnToLowerHalf 0 = .ok (.aload_n 0, 1) := by decide +kernel
theorem d_Screen_turnToLowerHalf_1 : decode b_Screen_turnToLowerHalf 1 = .ok (.getfield 129, 3) := by decide +kernel
theorem d_Screen_turnToLowerHalf_4 : decode b_Screen_turnToLowerHalf 4 = .ok (.iconst 4, 1) := by decide +kernel
theorem d_Screen_turnToLowerHalf_5 : decode b_Screen_turnToLowerHalf 5 = .ok (.iand, 1) := by decide +kernel
theorem d_Screen_turnToLowerHalf_6 : decode b_Screen_turnToLowerHalf 6 = .ok (.ifCond .eq 16, 3) := by decide +kernel
theorem d_Screen_turnToLowerHalf_9 : decode b_Screen_turnToLowerHalf 9 = .ok (.aload_n 0, 1) := by decide +kernel
theorem d_Screen_turnToLowerHalf_10 : decode b_Screen_turnToLowerHalf 10 = .ok (.dup, 1) := by decide +kernel
theorem d_Screen_turnToLowerHalf_11 : decode b_Screen_turnToLowerHalf 11 = .ok (.getfield 129, 3) := by decide +kernel
theorem d_Screen_turnToLowerHalf_14 : decode b_Screen_turnToLowerHalf 14 = .ok (.iconst 4, 1) := by decide +kernel
theorem d_Screen_turnToLowerHalf_15 : decode b_Screen_turnToLowerHalf 15 = .ok (.iadd, 1) := by decide +kernel
theorem d_Screen_turnToLowerHalf_16 : decode b_Screen_turnToLowerHalf 16 = .ok (.putfield 129, 3) := by decide +kernel
theorem d_Screen_turnToLowerHalf_19 : decode b_Screen_turnToLowerHalf 19 = .ok (.goto 20, 3) := by decide +kernel
theorem d_Screen_turnToLowerHalf_22 : decode b_Screen_turnToLowerHalf 22 = .ok (.aload_n 0, 1) := by decide +kernel
theorem d_Screen_turnToLowerHalf_23 : decode b_Screen_turnToLowerHalf 23 = .ok (.bipush 32, 2) := by decide +kernel
theorem d_Screen_turnToLowerHalf_25 : decode b_Screen_turnToLowerHalf 25 = .ok (.putfield 126, 3) := by decide +kernel
theorem d_Screen_turnToLowerHalf_28 : decode b_Screen_turnToLowerHalf 28 = .ok (.aload_n 0, 1) := by decide +kernel
theorem d_Screen_turnToLowerHalf_29 : decode b_Screen_turnToLowerHalf 29 = .ok (.dup, 1) := by decide +kernel
theorem d_Screen_turnToLowerHalf_30 : decode b_Screen_turnToLowerHalf 30 = .ok (.getfield 129, 3) := by decide +kernel
theorem d_Screen_turnToLowerHalf_33 : decode b_Screen_turnToLowerHalf 33 = .ok (.bipush 64, 2) := by decide +kernel
theorem d_Screen_turnToLowerHalf_35 : decode b_Screen_turnToLowerHalf 35 = .ok (.iand, 1) := by decide +kernel
theorem d_Screen_turnToLowerHalf_36 : decode b_Screen_turnToLowerHalf 36 = .ok (.putfield 129, 3) := by decide +kernel
theorem d_Screen_turnToLowerHalf_39 : decode b_Screen_turnToLowerHalf 39 = .ok (.return_, 1) := by decide +kernel
theorem d_Recv_point_0 : decode b_Recv_point 0 = .ok (.iload_n 1, 1) := by decide +kernel
theorem d_Recv_point_1 : decode b_Recv_point 1 = .ok (.iload_n 2, 1) := by decide +kernel
theorem d_Recv_point_2 : decode b_Recv_point 2 = .ok (.invokestatic 133, 3) := by decide +kernel
theorem d_Recv_point_5 : decode b_Recv_point 5 = .ok (.ifCond .eq 23, 3) := by decide +kernel
theorem d_Recv_point_8 : decode b_Recv_point 8 = .ok (.iload_n 3, 1) := by decide +kernel
theorem d_Recv_point_9 : decode b_Recv_point 9 = .ok (.ifCond .lt 19, 3) := by decide +kernel
theorem d_Recv_point_12 : decode b_Recv_point 12 = .ok (.iload_n 3, 1) := by decide +kernel
theorem d_Recv_point_13 : decode b_Recv_point 13 = .ok (.iconst 3, 1) := by decide +kernel
theorem d_Recv_point_14 : decode b_Recv_point 14 = .ok (.if_icmp .gt 14, 3) := by decide +kernel
theorem d_Recv_point_17 : decode b_Recv_point 17 = .ok (.iload 4, 2) := by decide +kernel
theorem d_Recv_point_19 : decode b_Recv_point 19 = .ok (.ifCond .lt 9, 3) := by decide +kernel
theorem d_Recv_point_22 : decode b_Recv_point 22 = .ok (.iload 4, 2) := by decide +kernel
theorem d_Recv_point_24 : decode b_Recv_point 24 = .ok (.iconst 5, 1) := by decide +kernel
theorem d_Recv_point_25 : decode b_Recv_point 25 = .ok (.if_icmp .le 5, 3) := by decide +kernel
theorem d_Recv_point_28 : decode b_Recv_point 28 = .ok (.iconst (-1), 1) := by decide +kernel
theorem d_Recv_point_29 : decode b_Recv_point 29 = .ok (.ireturn, 1) := by decide +kernel
theorem d_Recv_point_30 : decode b_Recv_point 30 = .ok (.aload_n 0, 1) := by decide +kernel
theorem d_Recv_point_31 : decode b_Recv_point 31 = .ok (.getfield 66, 3) := by decide +kernel
theorem d_Recv_point_34 : decode b_Recv_point 34 = .ok (.iload_n 1, 1) := by decide +kernel
theorem d_Recv_point_35 : decode b_Recv_point 35 = .ok (.iload_n 2, 1) := by decide +kernel
theorem d_Recv_point_36 : decode b_Recv_point 36 = .ok (.invokevirtual 137, 3) := by decide +kernel
theorem d_Recv_point_39 : decode b_Recv_point 39 = .ok (.aload_n 0, 1) := by decide +kernel
theorem d_Recv_point_40 : decode b_Recv_point 40 = .ok (.getfield 66, 3) := by decide +kernel
theorem d_Recv_point_43 : decode b_Recv_point 43 = .ok (.iload_n 3, 1) := by decide +kernel
theorem d_Recv_point_44 : decode b_Recv_point 44 = .ok (.iload 4, 2) := by decide +kernel
theorem d_Recv_point_46 : decode b_Recv_point 46 = .ok (.invokevirtual 153, 3) := by decide +kernel
theorem d_Recv_point_49 : decode b_Recv_point 49 = .ok (.ireturn, 1) := by decide +kernel
theorem d_Screen_colourAt_0 : decode b_Screen_colourAt 0 = .ok (.iload_n 2, 1) := by decide +kernel
theorem d_Screen_colourAt_1 : decode b_Screen_colourAt 1 = .ok (.istore_n 3, 1) := by decide +kernel
theorem d_Screen_colourAt_2 : decode b_Screen_colourAt 2 = .ok (.aload_n 0, 1) := by decide +kernel
theorem d_Screen_colourAt_3 : decode b_Screen_colourAt 3 = .ok (.getfield 129, 3) := by decide +kernel
theorem d_Screen_colourAt_6 : decode b_Screen_colourAt 6 = .ok (.iconst 4, 1) := by decide +kernel
theorem d_Screen_colourAt_7 : decode b_Screen_colourAt 7 = .ok (.iand, 1) := by decide +kernel
theorem d_Screen_colourAt_8 : decode b_Screen_colourAt 8 = .ok (.ifCond .eq 10, 3) := by decide +kernel
theorem d_Screen_colourAt_11 : decode b_Screen_colourAt 11 = .ok (.iload_n 2, 1) := by decide +kernel
theorem d_Screen_colourAt_12 : decode b_Screen_colourAt 12 = .ok (.iconst 2, 1) := by decide +kernel
theorem d_Screen_colourAt_13 : decode b_Screen_colourAt 13 = .ok (.idiv, 1) := by decide +kernel
theorem d_Screen_colourAt_14 : decode b_Screen_colourAt 14 = .ok (.istore_n 3, 1) := by decide +kernel
theorem d_Screen_colourAt_15 : decode b_Screen_colourAt 15 = .ok (.goto 19, 3) := by decide +kernel
theorem d_Screen_colourAt_18 : decode b_Screen_colourAt 18 = .ok (.aload_n 0, 1) := by decide +kernel
theorem d_Screen_colourAt_19 : decode b_Screen_colourAt 19 = .ok (.getfield 129, 3) := by decide +kernel
theorem d_Screen_colourAt_22 : decode b_Screen_colourAt 22 = .ok (.bipush 8, 2) := by decide +kernel
theorem d_Screen_colourAt_24 : decode b_Screen_colourAt 24 = .ok (.iand, 1) := by decide +kernel
theorem d_Screen_colourAt_25 : decode b_Screen_colourAt 25 = .ok (.ifCond .eq 9, 3) := by decide +kernel
theorem d_Screen_colourAt_28 : decode b_Screen_colourAt 28 = .ok (.iconst 3, 1) := by decide +kernel
theorem d_Screen_colourAt_29 : decode b_Screen_colourAt 29 = .ok (.iload_n 2, 1) := by decide +kernel
theorem d_Screen_colourAt_30 : decode b_Screen_colourAt 30 = .ok (.iconst 2, 1) := by decide +kernel
theorem d_Screen_colourAt_31 : decode b_Screen_colourAt 31 = .ok (.idiv, 1) := by decide +kernel
theorem d_Screen_colourAt_32 : decode b_Screen_colourAt 32 = .ok (.iadd, 1) := by decide +kernel
theorem d_Screen_colourAt_33 : decode b_Screen_colourAt 33 = .ok (.istore_n 3, 1) := by decide +kernel
theorem d_Screen_colourAt_34 : decode b_Screen_colourAt 34 = .ok (.aload_n 0, 1) := by decide +kernel
theorem d_Screen_colourAt_35 : decode b_Screen_colourAt 35 = .ok (.getfield 129, 3) := by decide +kernel
theorem d_Screen_colourAt_38 : decode b_Screen_colourAt 38 = .ok (.iconst 1, 1) := by decide +kernel
theorem d_Screen_colourAt_39 : decode b_Screen_colourAt 39 = .ok (.iand, 1) := by decide +kernel
theorem d_Screen_colourAt_40 : decode b_Screen_colourAt 40 = .ok (.ifCond .eq 12, 3) := by decide +kernel
theorem d_Screen_colourAt_43 : decode b_Screen_colourAt 43 = .ok (.aload_n 0, 1) := by decide +kernel
theorem d_Screen_colourAt_44 : decode b_Screen_colourAt 44 = .ok (.iload_n 1, 1) := by decide +kernel
theorem d_Screen_colourAt_45 : decode b_Screen_colourAt 45 = .ok (.iload_n 3, 1) := by decide +kernel
theorem d_Screen_colourAt_46 : decode b_Screen_colourAt 46 = .ok (.invokevirtual 158, 3) := by decide +kernel
theorem d_Screen_colourAt_49 : decode b_Screen_colourAt 49 = .ok (.goto 9, 3) := by decide +kernel
theorem d_Screen_colourAt_52 : decode b_Screen_colourAt 52 = .ok (.aload_n 0, 1) := by decide +kernel
theorem d_Screen_colourAt_53 : decode b_Screen_colourAt 53 = .ok (.iload_n 1, 1) := by decide +kernel
theorem d_Screen_colourAt_54 : decode b_Screen_colourAt 54 = .ok (.iload_n 3, 1) := by decide +kernel
theorem d_Screen_colourAt_55 : decode b_Screen_colourAt 55 = .ok (.invokevirtual 162, 3) := by decide +kernel
theorem d_Screen_colourAt_58 : decode b_Screen_colourAt 58 = .ok (.istore 4, 2) := by decide +kernel
theorem d_Screen_colourAt_60 : decode b_Screen_colourAt 60 = .ok (.iload 4, 2) := by decide +kernel
theorem d_Screen_colourAt_62 : decode b_Screen_colourAt 62 = .ok (.ifCond .eq 10, 3) := by decide +kernel
theorem d_Screen_colourAt_65 : decode b_Screen_colourAt 65 = .ok (.aload_n 0, 1) := by decide +kernel
theorem d_Screen_colourAt_66 : decode b_Screen_colourAt 66 = .ok (.getfield 144, 3) := by decide +kernel
theorem d_Screen_colourAt_69 : decode b_Screen_colourAt 69 = .ok (.goto 7, 3) := by decide +kernel
theorem d_Screen_colourAt_72 : decode b_Screen_colourAt 72 = .ok (.aload_n 0, 1) := by decide +kernel
theorem d_Screen_colourAt_73 : decode b_Screen_colourAt 73 = .ok (.getfield 148, 3) := by decide +kernel
theorem d_Screen_colourAt_76 : decode b_Screen_colourAt 76 = .ok (.ireturn, 1) := by decide +kernel
theorem d_Screen_blockFills_0 : decode b_Screen_blockFills 0 = .ok (.aload_n 0, 1) := by decide +kernel
theorem d_Screen_blockFills_1 : decode b_Screen_blockFills 1 = .ok (.getfield 129, 3) := by decide +kernel
theorem d_Screen_blockFills_4 : decode b_Screen_blockFills 4 = .ok (.iconst 2, 1) := by decide +kernel
theorem d_Screen_blockFills_5 : decode b_Screen_blockFills 5 = .ok (.iand, 1) := by decide +kernel
theorem d_Screen_blockFills_6 : decode b_Screen_blockFills 6 = .ok (.ifCond .eq 19, 3) := by decide +kernel
theorem d_Screen_blockFills_9 : decode b_Screen_blockFills 9 = .ok (.iload_n 1, 1) := by decide +kernel
theorem d_Screen_blockFills_10 : decode b_Screen_blockFills 10 = .ok (.iconst 2, 1) := by decide +kernel
theorem d_Screen_blockFills_11 : decode b_Screen_blockFills 11 = .ok (.irem, 1) := by decide +kernel
theorem d_Screen_blockFills_12 : decode b_Screen_blockFills 12 = .ok (.iconst 1, 1) := by decide +kernel
theorem d_Screen_blockFills_13 : decode b_Screen_blockFills 13 = .ok (.if_icmp .eq 10, 3) := by decide +kernel
theorem d_Screen_blockFills_16 : decode b_Screen_blockFills 16 = .ok (.iload_n 2, 1) := by decide +kernel
theorem d_Screen_blockFills_17 : decode b_Screen_blockFills 17 = .ok (.iconst 2, 1) := by decide +kernel
theorem d_Screen_blockFills_18 : decode b_Screen_blockFills 18 = .ok (.irem, 1) := by decide +kernel
theorem d_Screen_blockFills_19 : decode b_Screen_blockFills 19 = .ok (.iconst 1, 1) := by decide +kernel
theorem d_Screen_blockFills_20 : decode b_Screen_blockFills 20 = .ok (.if_icmp .ne 5, 3) := by decide +kernel
theorem d_Screen_blockFills_23 : decode b_Screen_blockFills 23 = .ok (.iconst 0, 1) := by decide +kernel
theorem d_Screen_blockFills_24 : decode b_Screen_blockFills 24 = .ok (.ireturn, 1) := by decide +kernel
theorem d_Screen_blockFills_25 : decode b_Screen_blockFills 25 = .ok (.iconst 2, 1) := by decide +kernel
theorem d_Screen_blockFills_26 : decode b_Screen_blockFills 26 = .ok (.iload_n 2, 1) := by decide +kernel
theorem d_Screen_blockFills_27 : decode b_Screen_blockFills 27 = .ok (.iconst 2, 1) := by decide +kernel
theorem d_Screen_blockFills_28 : decode b_Screen_blockFills 28 = .ok (.idiv, 1) := by decide +kernel
theorem d_Screen_blockFills_29 : decode b_Screen_blockFills 29 = .ok (.imul, 1) := by decide +kernel
theorem d_Screen_blockFills_30 : decode b_Screen_blockFills 30 = .ok (.iload_n 1, 1) := by decide +kernel
theorem d_Screen_blockFills_31 : decode b_Screen_blockFills 31 = .ok (.iconst 2, 1) := by decide +kernel
theorem d_Screen_blockFills_32 : decode b_Screen_blockFills 32 = .ok (.idiv, 1) := by decide +kernel
theorem d_Screen_blockFills_33 : decode b_Screen_blockFills 33 = .ok (.iadd, 1) := by decide +kernel
theorem d_Screen_blockFills_34 : decode b_Screen_blockFills 34 = .ok (.istore_n 3, 1) := by decide +kernel
theorem d_Screen_blockFills_35 : decode b_Screen_blockFills 35 = .ok (.aload_n 0, 1) := by decide +kernel
theorem d_Screen_blockFills_36 : decode b_Screen_blockFills 36 = .ok (.getfield 126, 3) := by decide +kernel
theorem d_Screen_blockFills_39 : decode b_Screen_blockFills 39 = .ok (.iload_n 3, 1) := by decide +kernel
theorem d_Screen_blockFills_40 : decode b_Screen_blockFills 40 = .ok (.iconst 5, 1) := by decide +kernel
theorem d_Screen_blockFills_41 : decode b_Screen_blockFills 41 = .ok (.if_icmp .ne 8, 3) := by decide +kernel
theorem d_Screen_blockFills_44 : decode b_Screen_blockFills 44 = .ok (.bipush 6, 2) := by decide +kernel
theorem d_Screen_blockFills_46 : decode b_Screen_blockFills 46 = .ok (.goto 4, 3) := by decide +kernel
theorem d_Screen_blockFills_49 : decode b_Screen_blockFills 49 = .ok (.iload_n 3, 1) := by decide +kernel
theorem d_Screen_blockFills_50 : decode b_Screen_blockFills 50 = .ok (.ishr, 1) := by decide +kernel
theorem d_Screen_blockFills_51 : decode b_Screen_blockFills 51 = .ok (.iconst 1, 1) := by decide +kernel
theorem d_Screen_blockFills_52 : decode b_Screen_blockFills 52 = .ok (.iand, 1) := by decide +kernel
theorem d_Screen_blockFills_53 : decode b_Screen_blockFills 53 = .ok (.iconst 1, 1) := by decide +kernel
theorem d_Screen_blockFills_54 : decode b_Screen_blockFills 54 = .ok (.if_icmp .ne 7, 3) := by decide +kernel
theorem d_Screen_blockFills_57 : decode b_Screen_blockFills 57 = .ok (.iconst 1, 1) := by decide +kernel
theorem d_Screen_blockFills_58 : decode b_Screen_blockFills 58 = .ok (.goto 4, 3) := by decide +kernel
theorem d_Screen_blockFills_61 : decode b_Screen_blockFills 61 = .ok (.iconst 0, 1) := by decide +kernel
theorem d_Screen_blockFills_62 : decode b_Screen_blockFills 62 = .ok (.ireturn, 1) := by decide +kernel
theorem d_Screen_letterFills_0 : decode b_Screen_letterFills 0 = .ok (.aload_n 0, 1) := by decide +kernel
theorem d_Screen_letterFills_1 : decode b_Screen_letterFills 1 = .ok (.getfield 126, 3) := by decide +kernel
theorem d_Screen_letterFills_4 : decode b_Screen_letterFills 4 = .ok (.ldc 165, 2) := by decide +kernel
theorem d_Screen_letterFills_6 : decode b_Screen_letterFills 6 = .ok (.imul, 1) := by decide +kernel
theorem d_Screen_letterFills_7 : decode b_Screen_letterFills 7 = .ok (.aload_n 0, 1) := by decide +kernel
theorem d_Screen_letterFills_8 : decode b_Screen_letterFills 8 = .ok (.getfield 126, 3) := by decide +kernel
theorem d_Screen_letterFills_11 : decode b_Screen_letterFills 11 = .ok (.bipush 7, 2) := by decide +kernel
theorem d_Screen_letterFills_13 : decode b_Screen_letterFills 13 = .ok (.ishl, 1) := by decide +kernel
theorem d_Screen_letterFills_14 : decode b_Screen_letterFills 14 = .ok (.ixor, 1) := by decide +kernel
theorem d_Screen_letterFills_15 : decode b_Screen_letterFills 15 = .ok (.istore_n 3, 1) := by decide +kernel
theorem d_Screen_letterFills_16 : decode b_Screen_letterFills 16 = .ok (.aload_n 0, 1) := by decide +kernel
theorem d_Screen_letterFills_17 : decode b_Screen_letterFills 17 = .ok (.getfield 126, 3) := by decide +kernel
theorem d_Screen_letterFills_20 : decode b_Screen_letterFills 20 = .ok (.bipush 32, 2) := by decide +kernel
theorem d_Screen_letterFills_22 : decode b_Screen_letterFills 22 = .ok (.if_icmp .eq 20, 3) := by decide +kernel
theorem d_Screen_letterFills_25 : decode b_Screen_letterFills 25 = .ok (.iload_n 3, 1) := by decide +kernel
theorem d_Screen_letterFills_26 : decode b_Screen_letterFills 26 = .ok (.iload_n 2, 1) := by decide +kernel
theorem d_Screen_letterFills_27 : decode b_Screen_letterFills 27 = .ok (.iconst 4, 1) := by decide +kernel
theorem d_Screen_letterFills_28 : decode b_Screen_letterFills 28 = .ok (.imul, 1) := by decide +kernel
theorem d_Screen_letterFills_29 : decode b_Screen_letterFills 29 = .ok (.iload_n 1, 1) := by decide +kernel
theorem d_Screen_letterFills_30 : decode b_Screen_letterFills 30 = .ok (.iadd, 1) := by decide +kernel
theorem d_Screen_letterFills_31 : decode b_Screen_letterFills 31 = .ok (.ishr, 1) := by decide +kernel
theorem d_Screen_letterFills_32 : decode b_Screen_letterFills 32 = .ok (.iconst 1, 1) := by decide +kernel
theorem d_Screen_letterFills_33 : decode b_Screen_letterFills 33 = .ok (.iand, 1) := by decide +kernel
theorem d_Screen_letterFills_34 : decode b_Screen_letterFills 34 = .ok (.iconst 1, 1) := by decide +kernel
theorem d_Screen_letterFills_35 : decode b_Screen_letterFills 35 = .ok (.if_icmp .ne 7, 3) := by decide +kernel
theorem d_Screen_letterFills_38 : decode b_Screen_letterFills 38 = .ok (.iconst 1, 1) := by decide +kernel
theorem d_Screen_letterFills_39 : decode b_Screen_letterFills 39 = .ok (.goto 4, 3) := by decide +kernel
theorem d_Screen_letterFills_42 : decode b_Screen_letterFills 42 = .ok (.iconst 0, 1) := by decide +kernel
theorem d_Screen_letterFills_43 : decode b_Screen_letterFills 43 = .ok (.ireturn, 1) := by decide +kernel
theorem d_Law_cell_0 : decode b_Law_cell 0 = .ok (.iload_n 1, 1) := by decide +kernel
theorem d_Law_cell_1 : decode b_Law_cell 1 = .ok (.aload_n 0, 1) := by decide +kernel
theorem d_Law_cell_2 : decode b_Law_cell 2 = .ok (.arraylength, 1) := by decide +kernel
theorem d_Law_cell_3 : decode b_Law_cell 3 = .ok (.if_icmp .ge 9, 3) := by decide +kernel
theorem d_Law_cell_6 : decode b_Law_cell 6 = .ok (.aload_n 0, 1) := by decide +kernel
theorem d_Law_cell_7 : decode b_Law_cell 7 = .ok (.iload_n 1, 1) := by decide +kernel
theorem d_Law_cell_8 : decode b_Law_cell 8 = .ok (.iaload, 1) := by decide +kernel
theorem d_Law_cell_9 : decode b_Law_cell 9 = .ok (.goto 4, 3) := by decide +kernel
theorem d_Law_cell_12 : decode b_Law_cell 12 = .ok (.iconst 0, 1) := by decide +kernel
theorem d_Law_cell_13 : decode b_Law_cell 13 = .ok (.ireturn, 1) := by decide +kernel
theorem d_Mod_init_0 : decode b_Mod_init 0 = .ok (.aload_n 0, 1) := by decide +kernel
theorem d_Mod_init_1 : decode b_Mod_init 1 = .ok (.invokespecial 1, 3) := by decide +kernel
theorem d_Mod_init_4 : decode b_Mod_init 4 = .ok (.aload_n 0, 1) := by decide +kernel
theorem d_Mod_init_5 : decode b_Mod_init 5 = .ok (.bipush 13, 2) := by decide +kernel
theorem d_Mod_init_7 : decode b_Mod_init 7 = .ok (.newarray .boolean, 2) := by decide +kernel
theorem d_Mod_init_9 : decode b_Mod_init 9 = .ok (.putfield 7, 3) := by decide +kernel
theorem d_Mod_init_12 : decode b_Mod_init 12 = .ok (.aload_n 0, 1) := by decide +kernel
theorem d_Mod_init_13 : decode b_Mod_init 13 = .ok (.bipush 13, 2) := by decide +kernel
theorem d_Mod_init_15 : decode b_Mod_init 15 = .ok (.newarray .int, 2) := by decide +kernel
theorem d_Mod_init_17 : decode b_Mod_init 17 = .ok (.putfield 13, 3) := by decide +kernel
theorem d_Mod_init_20 : decode b_Mod_init 20 = .ok (.aload_n 0, 1) := by decide +kernel
theorem d_Mod_init_21 : decode b_Mod_init 21 = .ok (.bipush 13, 2) := by decide +kernel
theorem d_Mod_init_23 : decode b_Mod_init 23 = .ok (.newarray .int, 2) := by decide +kernel
theorem d_Mod_init_25 : decode b_Mod_init 25 = .ok (.putfield 17, 3) := by decide +kernel
theorem d_Mod_init_28 : decode b_Mod_init 28 = .ok (.aload_n 0, 1) := by decide +kernel
theorem d_Mod_init_29 : decode b_Mod_init 29 = .ok (.bipush 13, 2) := by decide +kernel
theorem d_Mod_init_31 : decode b_Mod_init 31 = .ok (.newarray .int, 2) := by decide +kernel
theorem d_Mod_init_33 : decode b_Mod_init 33 = .ok (.putfield 20, 3) := by decide +kernel
theorem d_Mod_init_36 : decode b_Mod_init 36 = .ok (.aload_n 0, 1) := by decide +kernel
theorem d_Mod_init_37 : decode b_Mod_init 37 = .ok (.bipush 13, 2) := by decide +kernel
theorem d_Mod_init_39 : decode b_Mod_init 39 = .ok (.newarray .int, 2) := by decide +kernel
theorem d_Mod_init_41 : decode b_Mod_init 41 = .ok (.putfield 23, 3) := by decide +kernel
theorem d_Mod_init_44 : decode b_Mod_init 44 = .ok (.aload_n 0, 1) := by decide +kernel
theorem d_Mod_init_45 : decode b_Mod_init 45 = .ok (.bipush 52, 2) := by decide +kernel
theorem d_Mod_init_47 : decode b_Mod_init 47 = .ok (.newarray .int, 2) := by decide +kernel
theorem d_Mod_init_49 : decode b_Mod_init 49 = .ok (.putfield 26, 3) := by decide +kernel
theorem d_Mod_init_52 : decode b_Mod_init 52 = .ok (.aload_n 0, 1) := by decide +kernel
theorem d_Mod_init_53 : decode b_Mod_init 53 = .ok (.sipush 2080, 3) := by decide +kernel
theorem d_Mod_init_56 : decode b_Mod_init 56 = .ok (.newarray .int, 2) := by decide +kernel
theorem d_Mod_init_58 : decode b_Mod_init 58 = .ok (.putfield 29, 3) := by decide +kernel
theorem d_Mod_init_61 : decode b_Mod_init 61 = .ok (.aload_n 0, 1) := by decide +kernel
theorem d_Mod_init_62 : decode b_Mod_init 62 = .ok (.sipush 2080, 3) := by decide +kernel
theorem d_Mod_init_65 : decode b_Mod_init 65 = .ok (.newarray .int, 2) := by decide +kernel
theorem d_Mod_init_67 : decode b_Mod_init 67 = .ok (.putfield 32, 3) := by decide +kernel
theorem d_Mod_init_70 : decode b_Mod_init 70 = .ok (.aload_n 0, 1) := by decide +kernel
theorem d_Mod_init_71 : decode b_Mod_init 71 = .ok (.bipush 20, 2) := by decide +kernel
theorem d_Mod_init_73 : decode b_Mod_init 73 = .ok (.newarray .int, 2) := by decide +kernel
theorem d_Mod_init_75 : decode b_Mod_init 75 = .ok (.putfield 35, 3) := by decide +kernel
theorem d_Mod_init_78 : decode b_Mod_init 78 = .ok (.aload_n 0, 1) := by decide +kernel
theorem d_Mod_init_79 : decode b_Mod_init 79 = .ok (.bipush 22, 2) := by decide +kernel
theorem d_Mod_init_81 : decode b_Mod_init 81 = .ok (.newarray .int, 2) := by decide +kernel
theorem d_Mod_init_83 : decode b_Mod_init 83 = .ok (.putfield 38, 3) := by decide +kernel
theorem d_Mod_init_86 : decode b_Mod_init 86 = .ok (.aload_n 0, 1) := by decide +kernel
theorem d_Mod_init_87 : decode b_Mod_init 87 = .ok (.bipush 6, 2) := by decide +kernel
theorem d_Mod_init_89 : decode b_Mod_init 89 = .ok (.newarray .int, 2) := by decide +kernel
theorem d_Mod_init_91 : decode b_Mod_init 91 = .ok (.putfield 41, 3) := by decide +kernel
theorem d_Mod_init_94 : decode b_Mod_init 94 = .ok (.aload_n 0, 1) := by decide +kernel
theorem d_Mod_init_95 : decode b_Mod_init 95 = .ok (.sipush 256, 3) := by decide +kernel
theorem d_Mod_init_98 : decode b_Mod_init 98 = .ok (.putfield 44, 3) := by decide +kernel
theorem d_Mod_init_101 : decode b_Mod_init 101 = .ok (.aload_n 0, 1) := by decide +kernel
theorem d_Mod_init_102 : decode b_Mod_init 102 = .ok (.iconst 1, 1) := by decide +kernel
theorem d_Mod_init_103 : decode b_Mod_init 103 = .ok (.putfield 48, 3) := by decide +kernel
theorem d_Mod_init_106 : decode b_Mod_init 106 = .ok (.aload_n 0, 1) := by decide +kernel
theorem d_Mod_init_107 : decode b_Mod_init 107 = .ok (.bipush 20, 2) := by decide +kernel
theorem d_Mod_init_109 : decode b_Mod_init 109 = .ok (.newarray .int, 2) := by decide +kernel
theorem d_Mod_init_111 : decode b_Mod_init 111 = .ok (.putfield 52, 3) := by decide +kernel
theorem d_Mod_init_114 : decode b_Mod_init 114 = .ok (.aload_n 0, 1) := by decide +kernel
theorem d_Mod_init_115 : decode b_Mod_init 115 = .ok (.bipush 20, 2) := by decide +kernel
theorem d_Mod_init_117 : decode b_Mod_init 117 = .ok (.newarray .int, 2) := by decide +kernel
theorem d_Mod_init_119 : decode b_Mod_init 119 = .ok (.putfield 55, 3) := by decide +kernel
theorem d_Mod_init_122 : decode b_Mod_init 122 = .ok (.aload_n 0, 1) := by decide +kernel
theorem d_Mod_init_123 : decode b_Mod_init 123 = .ok (.bipush 20, 2) := by decide +kernel
theorem d_Mod_init_125 : decode b_Mod_init 125 = .ok (.newarray .int, 2) := by decide +kernel
theorem d_Mod_init_127 : decode b_Mod_init 127 = .ok (.putfield 58, 3) := by decide +kernel
theorem d_Mod_init_130 : decode b_Mod_init 130 = .ok (.aload_n 0, 1) := by decide +kernel
theorem d_Mod_init_131 : decode b_Mod_init 131 = .ok (.bipush 20, 2) := by decide +kernel
theorem d_Mod_init_133 : decode b_Mod_init 133 = .ok (.newarray .int, 2) := by decide +kernel
theorem d_Mod_init_135 : decode b_Mod_init 135 = .ok (.putfield 61, 3) := by decide +kernel
theorem d_Mod_init_138 : decode b_Mod_init 138 = .ok (.aload_n 0, 1) := by decide +kernel
theorem d_Mod_init_139 : decode b_Mod_init 139 = .ok (.bipush 20, 2) := by decide +kernel
theorem d_Mod_init_141 : decode b_Mod_init 141 = .ok (.newarray .int, 2) := by decide +kernel
theorem d_Mod_init_143 : decode b_Mod_init 143 = .ok (.putfield 64, 3) := by decide +kernel
theorem d_Mod_init_146 : decode b_Mod_init 146 = .ok (.aload_n 0, 1) := by decide +kernel
theorem d_Mod_init_147 : decode b_Mod_init 147 = .ok (.bipush 20, 2) := by decide +kernel
theorem d_Mod_init_149 : decode b_Mod_init 149 = .ok (.newarray .int, 2) := by decide +kernel
theorem d_Mod_init_151 : decode b_Mod_init 151 = .ok (.putfield 67, 3) := by decide +kernel
theorem d_Mod_init_154 : decode b_Mod_init 154 = .ok (.aload_n 0, 1) := by decide +kernel
theorem d_Mod_init_155 : decode b_Mod_init 155 = .ok (.iload_n 1, 1) := by decide +kernel
theorem d_Mod_init_156 : decode b_Mod_init 156 = .ok (.iconst 1, 1) := by decide +kernel
theorem d_Mod_init_157 : decode b_Mod_init 157 = .ok (.if_icmp .ge 7, 3) := by decide +kernel
theorem d_Mod_init_160 : decode b_Mod_init 160 = .ok (.iconst 1, 1) := by decide +kernel
theorem d_Mod_init_161 : decode b_Mod_init 161 = .ok (.goto 13, 3) := by decide +kernel
theorem d_Mod_init_164 : decode b_Mod_init 164 = .ok (.iload_n 1, 1) := by decide +kernel
theorem d_Mod_init_165 : decode b_Mod_init 165 = .ok (.iconst 4, 1) := by decide +kernel
theorem d_Mod_init_166 : decode b_Mod_init 166 = .ok (.if_icmp .le 7, 3) := by decide +kernel
theorem d_Mod_init_169 : decode b_Mod_init 169 = .ok (.iconst 4, 1) := by decide +kernel
theorem d_Mod_init_170 : decode b_Mod_init 170 = .ok (.goto 4, 3) := by decide +kernel
theorem d_Mod_init_173 : decode b_Mod_init 173 = .ok (.iload_n 1, 1) := by decide +kernel
theorem d_Mod_init_174 : decode b_Mod_init 174 = .ok (.putfield 70, 3) := by decide +kernel
theorem d_Mod_init_177 : decode b_Mod_init 177 = .ok (.iconst 0, 1) := by decide +kernel
theorem d_Mod_init_178 : decode b_Mod_init 178 = .ok (.istore_n 2, 1) := by decide +kernel
theorem d_Mod_init_179 : decode b_Mod_init 179 = .ok (.iload_n 2, 1) := by decide +kernel
theorem d_Mod_init_180 : decode b_Mod_init 180 = .ok (.bipush 20, 2) := by decide +kernel
theorem d_Mod_init_182 : decode b_Mod_init 182 = .ok (.if_icmp .ge 17, 3) := by decide +kernel
theorem d_Mod_init_185 : decode b_Mod_init 185 = .ok (.aload_n 0, 1) := by decide +kernel
theorem d_Mod_init_186 : decode b_Mod_init 186 = .ok (.getfield 35, 3) := by decide +kernel
theorem d_Mod_init_189 : decode b_Mod_init 189 = .ok (.iload_n 2, 1) := by decide +kernel
theorem d_Mod_init_190 : decode b_Mod_init 190 = .ok (.bipush 32, 2) := by decide +kernel
theorem d_Mod_init_192 : decode b_Mod_init 192 = .ok (.iastore, 1) := by decide +kernel
theorem d_Mod_init_193 : decode b_Mod_init 193 = .ok (.iinc 2 1, 3) := by decide +kernel
theorem d_Mod_init_196 : decode b_Mod_init 196 = .ok (.goto (-17), 3) := by decide +kernel
theorem d_Mod_init_199 : decode b_Mod_init 199 = .ok (.return_, 1) := by decide +kernel
