theorem d_Recv_init_0 : decode b_Recv_init 0 = .ok (.aload_n 0, 1) := by decide +kernel
theorem d_Recv_init_1 : decode b_Recv_init 1 = .ok (.invokespecial 1, 3) := by decide +kernel
theorem d_Recv_init_4 : decode b_Recv_init 4 = .ok (.aload_n 0, 1) := by decide +kernel
theorem d_Recv_init_5 : decode b_Recv_init 5 = .ok (.bipush 6, 2) := by decide +kernel
theorem d_Recv_init_7 : decode b_Recv_init 7 = .ok (.newarray .int, 2) := by decide +kernel
theorem d_Recv_init_9 : decode b_Recv_init 9 = .ok (.putfield 9, 3) := by decide +kernel
theorem d_Recv_init_12 : decode b_Recv_init 12 = .ok (.aload_n 0, 1) := by decide +kernel
theorem d_Recv_init_13 : decode b_Recv_init 13 = .ok (.new 13, 3) := by decide +kernel
theorem d_Recv_init_16 : decode b_Recv_init 16 = .ok (.dup, 1) := by decide +kernel
theorem d_Recv_init_17 : decode b_Recv_init 17 = .ok (.aload_n 0, 1) := by decide +kernel
theorem d_Recv_init_18 : decode b_Recv_init 18 = .ok (.getfield 9, 3) := by decide +kernel
theorem d_Recv_init_21 : decode b_Recv_init 21 = .ok (.invokespecial 15, 3) := by decide +kernel
theorem d_Recv_init_24 : decode b_Recv_init 24 = .ok (.putfield 18, 3) := by decide +kernel
theorem d_Recv_init_27 : decode b_Recv_init 27 = .ok (.aload_n 0, 1) := by decide +kernel
theorem d_Recv_init_28 : decode b_Recv_init 28 = .ok (.new 22, 3) := by decide +kernel
theorem d_Recv_init_31 : decode b_Recv_init 31 = .ok (.dup, 1) := by decide +kernel
theorem d_Recv_init_32 : decode b_Recv_init 32 = .ok (.iconst 1, 1) := by decide +kernel
theorem d_Recv_init_33 : decode b_Recv_init 33 = .ok (.iconst 4, 1) := by decide +kernel
theorem d_Recv_init_34 : decode b_Recv_init 34 = .ok (.iload_n 1, 1) := by decide +kernel
theorem d_Recv_init_35 : decode b_Recv_init 35 = .ok (.invokestatic 24, 3) := by decide +kernel
theorem d_Recv_init_38 : decode b_Recv_init 38 = .ok (.invokestatic 30, 3) := by decide +kernel
theorem d_Recv_init_41 : decode b_Recv_init 41 = .ok (.aload_n 0, 1) := by decide +kernel
theorem d_Recv_init_42 : decode b_Recv_init 42 = .ok (.getfield 9, 3) := by decide +kernel
theorem d_Recv_init_45 : decode b_Recv_init 45 = .ok (.invokespecial 33, 3) := by decide +kernel
theorem d_Recv_init_48 : decode b_Recv_init 48 = .ok (.putfield 36, 3) := by decide +kernel
theorem d_Recv_init_51 : decode b_Recv_init 51 = .ok (.aload_n 0, 1) := by decide +kernel
theorem d_Recv_init_52 : decode b_Recv_init 52 = .ok (.new 40, 3) := by decide +kernel
theorem d_Recv_init_55 : decode b_Recv_init 55 = .ok (.dup, 1) := by decide +kernel
theorem d_Recv_init_56 : decode b_Recv_init 56 = .ok (.aload_n 0, 1) := by decide +kernel
theorem d_Recv_init_57 : decode b_Recv_init 57 = .ok (.getfield 36, 3) := by decide +kernel
theorem d_Recv_init_60 : decode b_Recv_init 60 = .ok (.invokespecial 42, 3) := by decide +kernel
theorem d_Recv_init_63 : decode b_Recv_init 63 = .ok (.putfield 45, 3) := by decide +kernel
theorem d_Recv_init_66 : decode b_Recv_init 66 = .ok (.aload_n 0, 1) := by decide +kernel
theorem d_Recv_init_67 : decode b_Recv_init 67 = .ok (.new 49, 3) := by decide +kernel
theorem d_Recv_init_70 : decode b_Recv_init 70 = .ok (.dup, 1) := by decide +kernel
theorem d_Recv_init_71 : decode b_Recv_init 71 = .ok (.aload_n 0, 1) := by decide +kernel
theorem d_Recv_init_72 : decode b_Recv_init 72 = .ok (.getfield 18, 3) := by decide +kernel
theorem d_Recv_init_75 : decode b_Recv_init 75 = .ok (.aload_n 0, 1) := by decide +kernel
theorem d_Recv_init_76 : decode b_Recv_init 76 = .ok (.getfield 36, 3) := by decide +kernel
theorem d_Recv_init_79 : decode b_Recv_init 79 = .ok (.aload_n 0, 1) := by decide +kernel
theorem d_Recv_init_80 : decode b_Recv_init 80 = .ok (.getfield 45, 3) := by decide +kernel
theorem d_Recv_init_83 : decode b_Recv_init 83 = .ok (.aload_n 0, 1) := by decide +kernel
theorem d_Recv_init_84 : decode b_Recv_init 84 = .ok (.getfield 9, 3) := by decide +kernel
theorem d_Recv_init_87 : decode b_Recv_init 87 = .ok (.invokespecial 51, 3) := by decide +kernel
theorem d_Recv_init_90 : decode b_Recv_init 90 = .ok (.putfield 54, 3) := by decide +kernel
theorem d_Recv_init_93 : decode b_Recv_init 93 = .ok (.aload_n 0, 1) := by decide +kernel
theorem d_Recv_init_94 : decode b_Recv_init 94 = .ok (.new 58, 3) := by decide +kernel
theorem d_Recv_init_97 : decode b_Recv_init 97 = .ok (.dup, 1) := by decide +kernel
theorem d_Recv_init_98 : decode b_Recv_init 98 = .ok (.aload_n 0, 1) := by decide +kernel
theorem d_Recv_init_99 : decode b_Recv_init 99 = .ok (.getfield 45, 3) := by decide +kernel
theorem d_Recv_init_102 : decode b_Recv_init 102 = .ok (.aload_n 0, 1) := by decide +kernel
theorem d_Recv_init_103 : decode b_Recv_init 103 = .ok (.getfield 54, 3) := by decide +kernel
theorem d_Recv_init_106 : decode b_Recv_init 106 = .ok (.getfield 60, 3) := by decide +kernel
theorem d_Recv_init_109 : decode b_Recv_init 109 = .ok (.invokespecial 63, 3) := by decide +kernel
theorem d_Recv_init_112 : decode b_Recv_init 112 = .ok (.putfield 66, 3) := by decide +kernel
theorem d_Recv_init_115 : decode b_Recv_init 115 = .ok (.return_, 1) := by decide +kernel
theorem d_JObj_init_0 : decode b_JObj_init 0 = .ok (.return_, 1) := by decide +kernel
theorem d_Packet_init_0 : decode b_Packet_init 0 = .ok (.aload_n 0, 1) := by decide +kernel
theorem d_Packet_init_1 : decode b_Packet_init 1 = .ok (.invokespecial 3, 3) := by decide +kernel
theorem d_Packet_init_4 : decode b_Packet_init 4 = .ok (.aload_n 0, 1) := by decide +kernel
theorem d_Packet_init_5 : decode b_Packet_init 5 = .ok (.bipush 22, 2) := by decide +kernel
theorem d_Packet_init_7 : decode b_Packet_init 7 = .ok (.newarray .int, 2) := by decide +kernel
theorem d_Packet_init_9 : decode b_Packet_init 9 = .ok (.putfield 9, 3) := by decide +kernel
theorem d_Packet_init_12 : decode b_Packet_init 12 = .ok (.aload_n 0, 1) := by decide +kernel
theorem d_Packet_init_13 : decode b_Packet_init 13 = .ok (.aload_n 1, 1) := by decide +kernel
theorem d_Packet_init_14 : decode b_Packet_init 14 = .ok (.putfield 15, 3) := by decide +kernel
theorem d_Packet_init_17 : decode b_Packet_init 17 = .ok (.return_, 1) := by decide +kernel
theorem d_JMath_min_0 : decode b_JMath_min 0 = .ok (.iload_n 0, 1) := by decide +kernel
theorem d_JMath_min_1 : decode b_JMath_min 1 = .ok (.iload_n 1, 1) := by decide +kernel
theorem d_JMath_min_2 : decode b_JMath_min 2 = .ok (.if_icmp .gt 7, 3) := by decide +kernel
theorem d_JMath_min_5 : decode b_JMath_min 5 = .ok (.iload_n 0, 1) := by decide +kernel
theorem d_JMath_min_6 : decode b_JMath_min 6 = .ok (.goto 4, 3) := by decide +kernel
theorem d_JMath_min_9 : decode b_JMath_min 9 = .ok (.iload_n 1, 1) := by decide +kernel
theorem d_JMath_min_10 : decode b_JMath_min 10 = .ok (.ireturn, 1) := by decide +kernel
theorem d_JMath_max_0 : decode b_JMath_max 0 = .ok (.iload_n 0, 1) := by decide +kernel
theorem d_JMath_max_1 : decode b_JMath_max 1 = .ok (.iload_n 1, 1) := by decide +kernel
theorem d_JMath_max_2 : decode b_JMath_max 2 = .ok (.if_icmp .lt 7, 3) := by decide +kernel
theorem d_JMath_max_5 : decode b_JMath_max 5 = .ok (.iload_n 0, 1) := by decide +kernel
theorem d_JMath_max_6 : decode b_JMath_max 6 = .ok (.goto 4, 3) := by decide +kernel
theorem d_JMath_max_9 : decode b_JMath_max 9 = .ok (.iload_n 1, 1) := by decide +kernel
theorem d_JMath_max_10 : decode b_JMath_max 10 = .ok (.ireturn, 1) := by decide +kernel
theorem d_Shelf_init_0 : decode b_Shelf_init 0 = .ok (.aload_n 0, 1) := by decide +kernel
theorem d_Shelf_init_1 : decode b_Shelf_init 1 = .ok (.invokespecial 3, 3) := by decide +kernel
theorem d_Shelf_init_4 : decode b_Shelf_init 4 = .ok (.aload_n 0, 1) := by decide +kernel
theorem d_Shelf_init_5 : decode b_Shelf_init 5 = .ok (.aload_n 2, 1) := by decide +kernel
theorem d_Shelf_init_6 : decode b_Shelf_init 6 = .ok (.putfield 9, 3) := by decide +kernel
theorem d_Shelf_init_9 : decode b_Shelf_init 9 = .ok (.aload_n 0, 1) := by decide +kernel
theorem d_Shelf_init_10 : decode b_Shelf_init 10 = .ok (.iload_n 1, 1) := by decide +kernel
theorem d_Shelf_init_11 : decode b_Shelf_init 11 = .ok (.anewarray 15, 3) := by decide +kernel
theorem d_Shelf_init_14 : decode b_Shelf_init 14 = .ok (.putfield 17, 3) := by decide +kernel
theorem d_Shelf_init_17 : decode b_Shelf_init 17 = .ok (.iconst 0, 1) := by decide +kernel
theorem d_Shelf_init_18 : decode b_Shelf_init 18 = .ok (.istore_n 3, 1) := by decide +kernel
theorem d_Shelf_init_19 : decode b_Shelf_init 19 = .ok (.iload_n 3, 1) := by decide +kernel
theorem d_Shelf_init_20 : decode b_Shelf_init 20 = .ok (.iload_n 1, 1) := by decide +kernel
theorem d_Shelf_init_21 : decode b_Shelf_init 21 = .ok (.if_icmp .ge 22, 3) := by decide +kernel
theorem d_Shelf_init_24 : decode b_Shelf_init 24 = .ok (.aload_n 0, 1) := by decide +kernel
theorem d_Shelf_init_25 : decode b_Shelf_init 25 = .ok (.getfield 17, 3) := by decide +kernel
theorem d_Shelf_init_28 : decode b_Shelf_init 28 = .ok (.iload_n 3, 1) := by decide +kernel
theorem d_Shelf_init_29 : decode b_Shelf_init 29 = .ok (.new 15, 3) := by decide +kernel
theorem d_Shelf_init_32 : decode b_Shelf_init 32 = .ok (.dup, 1) := by decide +kernel
theorem d_Shelf_init_33 : decode b_Shelf_init 33 = .ok (.invokespecial 21, 3) := by decide +kernel
theorem d_Shelf_init_36 : decode b_Shelf_init 36 = .ok (.aastore, 1) := by decide +kernel
theorem d_Shelf_init_37 : decode b_Shelf_init 37 = .ok (.iinc 3 1, 3) := by decide +kernel
theorem d_Shelf_init_40 : decode b_Shelf_init 40 = .ok (.goto (-21), 3) := by decide +kernel
theorem d_Shelf_init_43 : decode b_Shelf_init 43 = .ok (.return_, 1) := by decide +kernel
theorem d_Page_init_0 : decode b_Page_init 0 = .ok (.aload_n 0, 1) := by decide +kernel
theorem d_Page_init_1 : decode b_Page_init 1 = .ok (.invokespecial 3, 3) := by decide +kernel
theorem d_Page_init_4 : decode b_Page_init 4 = .ok (.aload_n 0, 1) := by decide +kernel
theorem d_Page_init_5 : decode b_Page_init 5 = .ok (.sipush 160, 3) := by decide +kernel
theorem d_Page_init_8 : decode b_Page_init 8 = .ok (.newarray .int, 2) := by decide +kernel
theorem d_Page_init_10 : decode b_Page_init 10 = .ok (.putfield 9, 3) := by decide +kernel
theorem d_Page_init_13 : decode b_Page_init 13 = .ok (.aload_n 0, 1) := by decide +kernel
theorem d_Page_init_14 : decode b_Page_init 14 = .ok (.sipush 160, 3) := by decide +kernel
theorem d_Page_init_17 : decode b_Page_init 17 = .ok (.newarray .int, 2) := by decide +kernel
theorem d_Page_init_19 : decode b_Page_init 19 = .ok (.putfield 15, 3) := by decide +kernel
theorem d_Page_init_22 : decode b_Page_init 22 = .ok (.aload_n 0, 1) := by decide +kernel
theorem d_Page_init_23 : decode b_Page_init 23 = .ok (.iconst 4, 1) := by decide +kernel
theorem d_Page_init_24 : decode b_Page_init 24 = .ok (.newarray .int, 2) := by decide +kernel
theorem d_Page_init_26 : decode b_Page_init 26 = .ok (.putfield 18, 3) := by decide +kernel
theorem d_Page_init_29 : decode b_Page_init 29 = .ok (.return_, 1) := by decide +kernel
theorem d_Remote_init_0 : decode b_Remote_init 0 = .ok (.aload_n 0, 1) := by decide +kernel
theorem d_Remote_init_1 : decode b_Remote_init 1 = .ok (.invokespecial 3, 3) := by decide +kernel
theorem d_Remote_init_4 : decode b_Remote_init 4 = .ok (.aload_n 0, 1) := by decide +kernel
theorem d_Remote_init_5 : decode b_Remote_init 5 = .ok (.new 9, 3) := by decide +kernel
theorem d_Remote_init_8 : decode b_Remote_init 8 = .ok (.dup, 1) := by decide +kernel
theorem d_Remote_init_9 : decode b_Remote_init 9 = .ok (.invokespecial 11, 3) := by decide +kernel
theorem d_Remote_init_12 : decode b_Remote_init 12 = .ok (.putfield 12, 3) := by decide +kernel
theorem d_Remote_init_15 : decode b_Remote_init 15 = .ok (.aload_n 0, 1) := by decide +kernel
theorem d_Remote_init_16 : decode b_Remote_init 16 = .ok (.sipush 256, 3) := by decide +kernel
theorem d_Remote_init_19 : decode b_Remote_init 19 = .ok (.putfield 18, 3) := by decide +kernel
theorem d_Remote_init_22 : decode b_Remote_init 22 = .ok (.aload_n 0, 1) := by decide +kernel
theorem d_Remote_init_23 : decode b_Remote_init 23 = .ok (.aload_n 1, 1) := by decide +kernel
theorem d_Remote_init_24 : decode b_Remote_init 24 = .ok (.putfield 22, 3) := by decide +kernel
theorem d_Remote_init_27 : decode b_Remote_init 27 = .ok (.return_, 1) := by decide +kernel
theorem d_Tuner_init_0 : decode b_Tuner_init 0 = .ok (.aload_n 0, 1) := by decide +kernel
theorem d_Tuner_init_1 : decode b_Tuner_init 1 = .ok (.invokespecial 3, 3) := by decide +kernel
theorem d_Tuner_init_4 : decode b_Tuner_init 4 = .ok (.aload_n 0, 1) := by decide +kernel
theorem d_Tuner_init_5 : decode b_Tuner_init 5 = .ok (.bipush 8, 2) := by decide +kernel
theorem d_Tuner_init_7 : decode b_Tuner_init 7 = .ok (.anewarray 9, 3) := by decide +kernel
theorem d_Tuner_init_10 : decode b_Tuner_init 10 = .ok (.putfield 11, 3) := by decide +kernel
theorem d_Tuner_init_13 : decode b_Tuner_init 13 = .ok (.aload_n 0, 1) := by decide +kernel
theorem d_Tuner_init_14 : decode b_Tuner_init 14 = .ok (.bipush 20, 2) := by decide +kernel
theorem d_Tuner_init_16 : decode b_Tuner_init 16 = .ok (.newarray .int, 2) := by decide +kernel
theorem d_Tuner_init_18 : decode b_Tuner_init 18 = .ok (.putfield 17, 3) := by decide +kernel
theorem d_Tuner_init_21 : decode b_Tuner_init 21 = .ok (.aload_n 0, 1) := by decide +kernel
theorem d_Tuner_init_22 : decode b_Tuner_init 22 = .ok (.bipush 6, 2) := by decide +kernel
theorem d_Tuner_init_24 : decode b_Tuner_init 24 = .ok (.newarray .int, 2) := by decide +kernel
theorem d_Tuner_init_26 : decode b_Tuner_init 26 = .ok (.putfield 21, 3) := by decide +kernel
theorem d_Tuner_init_29 : decode b_Tuner_init 29 = .ok (.aload_n 0, 1) := by decide +kernel
theorem d_Tuner_init_30 : decode b_Tuner_init 30 = .ok (.aload_n 1, 1) := by decide +kernel
theorem d_Tuner_init_31 : decode b_Tuner_init 31 = .ok (.putfield 24, 3) := by decide +kernel
theorem d_Tuner_init_34 : decode b_Tuner_init 34 = .ok (.aload_n 0, 1) := by decide +kernel
theorem d_Tuner_init_35 : decode b_Tuner_init 35 = .ok (.aload_n 2, 1) := by decide +kernel
theorem d_Tuner_init_36 : decode b_Tuner_init 36 = .ok (.putfield 28, 3) := by decide +kernel
theorem d_Tuner_init_39 : decode b_Tuner_init 39 = .ok (.aload_n 0, 1) := by decide +kernel
theorem d_Tuner_init_40 : decode b_Tuner_init 40 = .ok (.aload_n 3, 1) := by decide +kernel
theorem d_Tuner_init_41 : decode b_Tuner_init 41 = .ok (.putfield 32, 3) := by decide +kernel
theorem d_Tuner_init_44 : decode b_Tuner_init 44 = .ok (.aload_n 0, 1) := by decide +kernel
theorem d_Tuner_init_45 : decode b_Tuner_init 45 = .ok (.aload 4, 2) := by decide +kernel
theorem d_Tuner_init_47 : decode b_Tuner_init 47 = .ok (.putfield 36, 3) := by decide +kernel
theorem d_Tuner_init_50 : decode b_Tuner_init 50 = .ok (.iconst 0, 1) := by decide +kernel
theorem d_Tuner_init_51 : decode b_Tuner_init 51 = .ok (.istore 5, 2) := by decide +kernel
theorem d_Tuner_init_53 : decode b_Tuner_init 53 = .ok (.iload 5, 2) := by decide +kernel
theorem d_Tuner_init_55 : decode b_Tuner_init 55 = .ok (.bipush 8, 2) := by decide +kernel
theorem d_Tuner_init_57 : decode b_Tuner_init 57 = .ok (.if_icmp .ge 23, 3) := by decide +kernel
theorem d_Tuner_init_60 : decode b_Tuner_init 60 = .ok (.aload_n 0, 1) := by decide +kernel
theorem d_Tuner_init_61 : decode b_Tuner_init 61 = .ok (.getfield 11, 3) := by decide +kernel
theorem d_Tuner_init_64 : decode b_Tuner_init 64 = .ok (.iload 5, 2) := by decide +kernel
theorem d_Tuner_init_66 : decode b_Tuner_init 66 = .ok (.new 9, 3) := by decide +kernel
theorem d_Tuner_init_69 : decode b_Tuner_init 69 = .ok (.dup, 1) := by decide +kernel
theorem d_Tuner_init_70 : decode b_Tuner_init 70 = .ok (.invokespecial 39, 3) := by decide +kernel
theorem d_Tuner_init_73 : decode b_Tuner_init 73 = .ok (.aastore, 1) := by decide +kernel
theorem d_Tuner_init_74 : decode b_Tuner_init 74 = .ok (.iinc 5 1, 3) := by decide +kernel
theorem d_Tuner_init_77 : decode b_Tuner_init 77 = .ok (.goto (-24), 3) := by decide +kernel
theorem d_Tuner_init_80 : decode b_Tuner_init 80 = .ok (.aload_n 0, 1) := by decide +kernel
theorem d_Tuner_init_81 : decode b_Tuner_init 81 = .ok (.getfield 17, 3) := by decide +kernel
theorem d_Tuner_init_84 : decode b_Tuner_init 84 = .ok (.bipush 32, 2) := by decide +kernel
theorem d_Tuner_init_86 : decode b_Tuner_init 86 = .ok (.invokestatic 40, 3) := by decide +kernel
theorem d_Tuner_init_89 : decode b_Tuner_init 89 = .ok (.return_, 1) := by decide +kernel
theorem d_JArr_fill_0 : decode b_JArr_fill 0 = .ok (.iconst 0, 1) := by decide +kernel
theorem d_JArr_fill_1 : decode b_JArr_fill 1 = .ok (.istore_n 2, 1) := by decide +kernel
theorem d_JArr_fill_2 : decode b_JArr_fill 2 = .ok (.aload_n 0, 1) := by decide +kernel
theorem d_JArr_fill_3 : decode b_JArr_fill 3 = .ok (.arraylength, 1) := by decide +kernel
theorem d_JArr_fill_4 : decode b_JArr_fill 4 = .ok (.istore_n 3, 1) := by decide +kernel
theorem d_JArr_fill_5 : decode b_JArr_fill 5 = .ok (.iload_n 2, 1) := by decide +kernel
theorem d_JArr_fill_6 : decode b_JArr_fill 6 = .ok (.iload_n 3, 1) := by decide +kernel
theorem d_JArr_fill_7 : decode b_JArr_fill 7 = .ok (.if_icmp .ge 13, 3) := by decide +kernel
theorem d_JArr_fill_10 : decode b_JArr_fill 10 = .ok (.aload_n 0, 1) := by decide +kernel
theorem d_JArr_fill_11 : decode b_JArr_fill 11 = .ok (.iload_n 2, 1) := by decide +kernel
theorem d_JArr_fill_12 : decode b_JArr_fill 12 = .ok (.iload_n 1, 1) := by decide +kernel
theorem d_JArr_fill_13 : decode b_JArr_fill 13 = .ok (.iastore, 1) := by decide +kernel
theorem d_JArr_fill_14 : decode b_JArr_fill 14 = .ok (.iinc 2 1, 3) := by decide +kernel
theorem d_JArr_fill_17 : decode b_JArr_fill 17 = .ok (.goto (-12), 3) := by decide +kernel
theorem d_JArr_fill_20 : decode b_JArr_fill 20 = .ok (.return_, 1) := by decide +kernel
theorem d_Screen_init_0 : decode b_Screen_init 0 = .ok (.aload_n 0, 1) := by decide +kernel
theorem d_Screen_init_1 : decode b_Screen_init 1 = .ok (.invokespecial 3, 3) := by decide +kernel
theorem d_Screen_init_4 : decode b_Screen_init 4 = .ok (.aload_n 0, 1) := by decide +kernel
theorem d_Screen_init_5 : decode b_Screen_init 5 = .ok (.new 9, 3) := by decide +kernel
theorem d_Screen_init_8 : decode b_Screen_init 8 = .ok (.dup, 1) := by decide +kernel
theorem d_Screen_init_9 : decode b_Screen_init 9 = .ok (.invokespecial 11, 3) := by decide +kernel
theorem d_Screen_init_12 : decode b_Screen_init 12 = .ok (.putfield 12, 3) := by decide +kernel
theorem d_Screen_init_15 : decode b_Screen_init 15 = .ok (.aload_n 0, 1) := by decide +kernel
theorem d_Screen_init_16 : decode b_Screen_init 16 = .ok (.iconst 1, 1) := by decide +kernel
theorem d_Screen_init_17 : decode b_Screen_init 17 = .ok (.putfield 18, 3) := by decide +kernel
theorem d_Screen_init_20 : decode b_Screen_init 20 = .ok (.aload_n 0, 1) := by decide +kernel
theorem d_Screen_init_21 : decode b_Screen_init 21 = .ok (.aload_n 1, 1) := by decide +kernel
theorem d_Screen_init_22 : decode b_Screen_init 22 = .ok (.putfield 22, 3) := by decide +kernel
theorem d_Screen_init_25 : decode b_Screen_init 25 = .ok (.aload_n 0, 1) := by decide +kernel
theorem d_Screen_init_26 : decode b_Screen_init 26 = .ok (.aload_n 2, 1) := by decide +kernel
theorem d_Screen_init_27 : decode b_Screen_init 27 = .ok (.putfield 26, 3) := by decide +kernel
theorem d_Screen_init_30 : decode b_Screen_init 30 = .ok (.return_, 1) := by decide +kernel
theorem d_States_init_0 : decode b_States_init 0 = .ok (.aload_n 0, 1) := by decide +kernel
theorem d_States_init_1 : decode b_States_init 1 = .ok (.invokespecial 3, 3) := by decide +kernel
theorem d_States_init_4 : decode b_States_init 4 = .ok (.return_, 1) := by decide +kernel
theorem d_Recv_feed_0 : decode b_Recv_feed 0 = .ok (.iload_n 3, 1) := by decide +kernel
theorem d_Recv_feed_1 : decode b_Recv_feed 1 = .ok (.iconst 1, 1) := by decide +kernel
theorem d_Recv_feed_2 : decode b_Recv_feed 2 = .ok (.if_icmp .lt 9, 3) := by decide +kernel
theorem d_Recv_feed_5 : decode b_Recv_feed 5 = .ok (.iload_n 3, 1) := by decide +kernel
theorem d_Recv_feed_6 : decode b_Recv_feed 6 = .ok (.bipush 8, 2) := by decide +kernel
theorem d_Recv_feed_8 : decode b_Recv_feed 8 = .ok (.if_icmp .le 5, 3) := by decide +kernel
theorem d_Recv_feed_11 : decode b_Recv_feed 11 = .ok (.iconst (-1), 1) := by decide +kernel
theorem d_Recv_feed_12 : decode b_Recv_feed 12 = .ok (.ireturn, 1) := by decide +kernel
theorem d_Recv_feed_13 : decode b_Recv_feed 13 = .ok (.iload_n 3, 1) := by decide +kernel
theorem d_Recv_feed_14 : decode b_Recv_feed 14 = .ok (.iconst 1, 1) := by decide +kernel
theorem d_Recv_feed_15 : decode b_Recv_feed 15 = .ok (.isub, 1) := by decide +kernel
theorem d_Recv_feed_16 : decode b_Recv_feed 16 = .ok (.istore 4, 2) := by decide +kernel
theorem d_Recv_feed_18 : decode b_Recv_feed 18 = .ok (.iload 4, 2) := by decide +kernel
theorem d_Recv_feed_20 : decode b_Recv_feed 20 = .ok (.ifCond .lt 53, 3) := by decide +kernel
theorem d_Recv_feed_23 : decode b_Recv_feed 23 = .ok (.aload_n 0, 1) := by decide +kernel
theorem d_Recv_feed_24 : decode b_Recv_feed 24 = .ok (.getfield 18, 3) := by decide +kernel
theorem d_Recv_feed_27 : decode b_Recv_feed 27 = .ok (.lload_n 1, 1) := by decide +kernel
theorem d_Recv_feed_28 : decode b_Recv_feed 28 = .ok (.bipush 8, 2) := by decide +kernel
theorem d_Recv_feed_30 : decode b_Recv_feed 30 = .ok (.iload 4, 2) := by decide +kernel
theorem d_Recv_feed_32 : decode b_Recv_feed 32 = .ok (.imul, 1) := by decide +kernel
theorem d_Recv_feed_33 : decode b_Recv_feed 33 = .ok (.lushr, 1) := by decide +kernel
theorem d_Recv_feed_34 : decode b_Recv_feed 34 = .ok (.l2i, 1) := by decide +kernel
theorem d_Recv_feed_35 : decode b_Recv_feed 35 = .ok (.sipush 255, 3) := by decide +kernel
theorem d_Recv_feed_38 : decode b_Recv_feed 38 = .ok (.iand, 1) := by decide +kernel
theorem d_Recv_feed_39 : decode b_Recv_feed 39 = .ok (.invokevirtual 70, 3) := by decide +kernel
theorem d_Recv_feed_42 : decode b_Recv_feed 42 = .ok (.aload_n 0, 1) := by decide +kernel
theorem d_Recv_feed_43 : decode b_Recv_feed 43 = .ok (.getfield 18, 3) := by decide +kernel
theorem d_Recv_feed_46 : decode b_Recv_feed 46 = .ok (.invokevirtual 74, 3) := by decide +kernel
theorem d_Recv_feed_49 : decode b_Recv_feed 49 = .ok (.ifCond .eq 18, 3) := by decide +kernel
theorem d_Recv_feed_52 : decode b_Recv_feed 52 = .ok (.aload_n 0, 1) := by decide +kernel
theorem d_Recv_feed_53 : decode b_Recv_feed 53 = .ok (.getfield 54, 3) := by decide +kernel
theorem d_Recv_feed_56 : decode b_Recv_feed 56 = .ok (.invokevirtual 78, 3) := by decide +kernel
theorem d_Recv_feed_59 : decode b_Recv_feed 59 = .ok (.aload_n 0, 1) := by decide +kernel
theorem d_Recv_feed_60 : decode b_Recv_feed 60 = .ok (.getfield 18, 3) := by decide +kernel
theorem d_Recv_feed_63 : decode b_Recv_feed 63 = .ok (.invokevirtual 81, 3) := by decide +kernel
theorem d_Recv_feed_66 : decode b_Recv_feed 66 = .ok (.pop, 1) := by decide +kernel
theorem d_Recv_feed_67 : decode b_Recv_feed 67 = .ok (.iinc 4 (-1), 3) := by decide +kernel
theorem d_Recv_feed_70 : decode b_Recv_feed 70 = .ok (.goto (-52), 3) := by decide +kernel
theorem d_Recv_feed_73 : decode b_Recv_feed 73 = .ok (.aload_n 0, 1) := by decide +kernel
theorem d_Recv_feed_74 : decode b_Recv_feed 74 = .ok (.getfield 18, 3) := by decide +kernel
theorem d_Recv_feed_77 : decode b_Recv_feed 77 = .ok (.getfield 85, 3) := by decide +kernel
theorem d_Recv_feed_80 : decode b_Recv_feed 80 = .ok (.ireturn, 1) := by decide +kernel
theorem d_Packet_put_0 : decode b_Packet_put 0 = .ok (.aload_n 0, 1) := by decide +kernel
theorem d_Packet_put_1 : decode b_Packet_put 1 = .ok (.getfield 18, 3) := by decide +kernel
theorem d_Packet_put_4 : decode b_Packet_put 4 = .ok (.bipush 22, 2) := by decide +kernel
theorem d_Packet_put_6 : decode b_Packet_put 6 = .ok (.if_icmp .ge 23, 3) := by decide +kernel
theorem d_Packet_put_9 : decode b_Packet_put 9 = .ok (.aload_n 0, 1) := by decide +kernel
theorem d_Packet_put_10 : decode b_Packet_put 10 = .ok (.getfield 9, 3) := by decide +kernel
theorem d_Packet_put_13 : decode b_Packet_put 13 = .ok (.aload_n 0, 1) := by decide +kernel
theorem d_Packet_put_14 : decode b_Packet_put 14 = .ok (.getfield 18, 3) := by decide +kernel
theorem d_Packet_put_17 : decode b_Packet_put 17 = .ok (.iload_n 1, 1) := by decide +kernel
theorem d_Packet_put_18 : decode b_Packet_put 18 = .ok (.iastore, 1) := by decide +kernel
theorem d_Packet_put_19 : decode b_Packet_put 19 = .ok (.aload_n 0, 1) := by decide +kernel
theorem d_Packet_put_20 : decode b_Packet_put 20 = .ok (.dup, 1) := by decide +kernel
theorem d_Packet_put_21 : decode b_Packet_put 21 = .ok (.getfield 18, 3) := by decide +kernel
theorem d_Packet_put_24 : decode b_Packet_put 24 = .ok (.iconst 1, 1) := by decide +kernel
theorem d_Packet_put_25 : decode b_Packet_put 25 = .ok (.iadd, 1) := by decide +kernel
theorem d_Packet_put_26 : decode b_Packet_put 26 = .ok (.putfield 18, 3) := by decide +kernel
theorem d_Packet_put_29 : decode b_Packet_put 29 = .ok (.return_, 1) := by decide +kernel
theorem d_Packet_isWhole_0 : decode b_Packet_isWhole 0 = .ok (.aload_n 0, 1) := by decide +kernel
theorem d_Packet_isWhole_1 : decode b_Packet_isWhole 1 = .ok (.getfield 18, 3) := by decide +kernel
theorem d_Packet_isWhole_4 : decode b_Packet_isWhole 4 = .ok (.bipush 22, 2) := by decide +kernel
theorem d_Packet_isWhole_6 : decode b_Packet_isWhole 6 = .ok (.if_icmp .ne 7, 3) := by decide +kernel
theorem d_Packet_isWhole_9 : decode b_Packet_isWhole 9 = .ok (.iconst 1, 1) := by decide +kernel
theorem d_Packet_isWhole_10 : decode b_Packet_isWhole 10 = .ok (.goto 4, 3) := by decide +kernel
theorem d_Packet_isWhole_13 : decode b_Packet_isWhole 13 = .ok (.iconst 0, 1) := by decide +kernel
theorem d_Packet_isWhole_14 : decode b_Packet_isWhole 14 = .ok (.ireturn, 1) := by decide +kernel
theorem d_Tuner_takePacket_0 : decode b_Tuner_takePacket 0 = .ok (.aload_n 0, 1) := by decide +kernel
theorem d_Tuner_takePacket_1 : decode b_Tuner_takePacket 1 = .ok (.getfield 36, 3) := by decide +kernel
theorem d_Tuner_takePacket_4 : decode b_Tuner_takePacket 4 = .ok (.iconst 0, 1) := by decide +kernel
theorem d_Tuner_takePacket_5 : decode b_Tuner_takePacket 5 = .ok (.dup2, 1) := by decide +kernel
theorem d_Tuner_takePacket_6 : decode b_Tuner_takePacket 6 = .ok (.iaload, 1) := by decide +kernel
theorem d_Tuner_takePacket_7 : decode b_Tuner_takePacket 7 = .ok (.iconst 1, 1) := by decide +kernel
theorem d_Tuner_takePacket_8 : decode b_Tuner_takePacket 8 = .ok (.iadd, 1) := by decide +kernel
theorem d_Tuner_takePacket_9 : decode b_Tuner_takePacket 9 = .ok (.iastore, 1) := by decide +kernel
theorem d_Tuner_takePacket_10 : decode b_Tuner_takePacket 10 = .ok (.aload_n 0, 1) := by decide +kernel
theorem d_Tuner_takePacket_11 : decode b_Tuner_takePacket 11 = .ok (.getfield 24, 3) := by decide +kernel
theorem d_Tuner_takePacket_14 : decode b_Tuner_takePacket 14 = .ok (.iconst 0, 1) := by decide +kernel
theorem d_Tuner_takePacket_15 : decode b_Tuner_takePacket 15 = .ok (.invokevirtual 46, 3) := by decide +kernel
theorem d_Tuner_takePacket_18 : decode b_Tuner_takePacket 18 = .ok (.istore_n 1, 1) := by decide +kernel
theorem d_Tuner_takePacket_19 : decode b_Tuner_takePacket 19 = .ok (.iload_n 1, 1) := by decide +kernel
theorem d_Tuner_takePacket_20 : decode b_Tuner_takePacket 20 = .ok (.iconst (-1), 1) := by decide +kernel
theorem d_Tuner_takePacket_21 : decode b_Tuner_takePacket 21 = .ok (.if_icmp .ne 7, 3) := by decide +kernel
theorem d_Tuner_takePacket_24 : decode b_Tuner_takePacket 24 = .ok (.iconst (-1), 1) := by decide +kernel
theorem d_Tuner_takePacket_25 : decode b_Tuner_takePacket 25 = .ok (.goto 11, 3) := by decide +kernel
theorem d_Tuner_takePacket_28 : decode b_Tuner_takePacket 28 = .ok (.aload_n 0, 1) := by decide +kernel
theorem d_Tuner_takePacket_29 : decode b_Tuner_takePacket 29 = .ok (.getfield 24, 3) := by decide +kernel
theorem d_Tuner_takePacket_32 : decode b_Tuner_takePacket 32 = .ok (.iconst 1, 1) := by decide +kernel
theorem d_Tuner_takePacket_33 : decode b_Tuner_takePacket 33 = .ok (.invokevirtual 46, 3) := by decide +kernel
theorem d_Tuner_takePacket_36 : decode b_Tuner_takePacket 36 = .ok (.istore_n 2, 1) := by decide +kernel
theorem d_Tuner_takePacket_37 : decode b_Tuner_takePacket 37 = .ok (.iload_n 2, 1) := by decide +kernel
theorem d_Tuner_takePacket_38 : decode b_Tuner_takePacket 38 = .ok (.iconst (-1), 1) := by decide +kernel
theorem d_Tuner_takePacket_39 : decode b_Tuner_takePacket 39 = .ok (.if_icmp .ne 14, 3) := by decide +kernel
theorem d_Tuner_takePacket_42 : decode b_Tuner_takePacket 42 = .ok (.aload_n 0, 1) := by decide +kernel
theorem d_Tuner_takePacket_43 : decode b_Tuner_takePacket 43 = .ok (.getfield 36, 3) := by decide +kernel
theorem d_Tuner_takePacket_46 : decode b_Tuner_takePacket 46 = .ok (.iconst 1, 1) := by decide +kernel
theorem d_Tuner_takePacket_47 : decode b_Tuner_takePacket 47 = .ok (.dup2, 1) := by decide +kernel
theorem d_Tuner_takePacket_48 : decode b_Tuner_takePacket 48 = .ok (.iaload, 1) := by decide +kernel
theorem d_Tuner_takePacket_49 : decode b_Tuner_takePacket 49 = .ok (.iconst 1, 1) := by decide +kernel
theorem d_Tuner_takePacket_50 : decode b_Tuner_takePacket 50 = .ok (.iadd, 1) := by decide +kernel
theorem d_Tuner_takePacket_51 : decode b_Tuner_takePacket 51 = .ok (.iastore, 1) := by decide +kernel
theorem d_Tuner_takePacket_52 : decode b_Tuner_takePacket 52 = .ok (.return_, 1) := by decide +kernel
theorem d_Tuner_takePacket_53 : decode b_Tuner_takePacket 53 = .ok (.iload_n 1, 1) := by decide +kernel
theorem d_Tuner_takePacket_54 : decode b_Tuner_takePacket 54 = .ok (.bipush 8, 2) := by decide +kernel
theorem d_Tuner_takePacket_56 : decode b_Tuner_takePacket 56 = .ok (.irem, 1) := by decide +kernel
theorem d_Tuner_takePacket_57 : decode b_Tuner_takePacket 57 = .ok (.istore_n 3, 1) := by decide +kernel
theorem d_Tuner_takePacket_58 : decode b_Tuner_takePacket 58 = .ok (.iload_n 1, 1) := by decide +kernel
theorem d_Tuner_takePacket_59 : decode b_Tuner_takePacket 59 = .ok (.bipush 8, 2) := by decide +kernel
theorem d_Tuner_takePacket_61 : decode b_Tuner_takePacket 61 = .ok (.idiv, 1) := by decide +kernel
theorem d_Tuner_takePacket_62 : decode b_Tuner_takePacket 62 = .ok (.iconst 2, 1) := by decide +kernel
theorem d_Tuner_takePacket_63 : decode b_Tuner_takePacket 63 = .ok (.iload_n 2, 1) := by decide +kernel
theorem d_Tuner_takePacket_64 : decode b_Tuner_takePacket 64 = .ok (.imul, 1) := by decide +kernel
theorem d_Tuner_takePacket_65 : decode b_Tuner_takePacket 65 = .ok (.iadd, 1) := by decide +kernel
theorem d_Tuner_takePacket_66 : decode b_Tuner_takePacket 66 = .ok (.istore 4, 2) := by decide +kernel
theorem d_Tuner_takePacket_68 : decode b_Tuner_takePacket 68 = .ok (.iload 4, 2) := by decide +kernel
theorem d_Tuner_takePacket_70 : decode b_Tuner_takePacket 70 = .ok (.ifCond .ne 11, 3) := by decide +kernel
theorem d_Tuner_takePacket_73 : decode b_Tuner_takePacket 73 = .ok (.aload_n 0, 1) := by decide +kernel
theorem d_Tuner_takePacket_74 : decode b_Tuner_takePacket 74 = .ok (.iload_n 3, 1) := by decide +kernel
theorem d_Tuner_takePacket_75 : decode b_Tuner_takePacket 75 = .ok (.invokevirtual 52, 3) := by decide +kernel
theorem d_Tuner_takePacket_78 : decode b_Tuner_takePacket 78 = .ok (.goto 28, 3) := by decide +kernel
theorem d_Tuner_takePacket_81 : decode b_Tuner_takePacket 81 = .ok (.aload_n 0, 1) := by decide +kernel
theorem d_Tuner_takePacket_82 : decode b_Tuner_takePacket 82 = .ok (.getfield 11, 3) := by decide +kernel
theorem d_Tuner_takePacket_85 : decode b_Tuner_takePacket 85 = .ok (.iload_n 3, 1) := by decide +kernel
theorem d_Tuner_takePacket_86 : decode b_Tuner_takePacket 86 = .ok (.aaload, 1) := by decide +kernel
theorem d_Tuner_takePacket_87 : decode b_Tuner_takePacket 87 = .ok (.getfield 56, 3) := by decide +kernel
theorem d_Tuner_takePacket_90 : decode b_Tuner_takePacket 90 = .ok (.ifCond .eq 16, 3) := by decide +kernel
theorem d_Tuner_takePacket_93 : decode b_Tuner_takePacket 93 = .ok (.aload_n 0, 1) := by decide +kernel
theorem d_Tuner_takePacket_94 : decode b_Tuner_takePacket 94 = .ok (.aload_n 0, 1) := by decide +kernel
theorem d_Tuner_takePacket_95 : decode b_Tuner_takePacket 95 = .ok (.getfield 11, 3) := by decide +kernel
theorem d_Tuner_takePacket_98 : decode b_Tuner_takePacket 98 = .ok (.iload_n 3, 1) := by decide +kernel
theorem d_Tuner_takePacket_99 : decode b_Tuner_takePacket 99 = .ok (.aaload, 1) := by decide +kernel
theorem d_Tuner_takePacket_100 : decode b_Tuner_takePacket 100 = .ok (.iload_n 3, 1) := by decide +kernel
theorem d_Tuner_takePacket_101 : decode b_Tuner_takePacket 101 = .ok (.iload 4, 2) := by decide +kernel
theorem d_Tuner_takePacket_103 : decode b_Tuner_takePacket 103 = .ok (.invokevirtual 60, 3) := by decide +kernel
theorem d_Tuner_takePacket_106 : decode b_Tuner_takePacket 106 = .ok (.return_, 1) := by decide +kernel
theorem d_Packet_nibble_0 : decode b_Packet_nibble 0 = .ok (.iconst 0, 1) := by decide +kernel
theorem d_Packet_nibble_1 : decode b_Packet_nibble 1 = .ok (.istore_n 2, 1) := by decide +kernel
theorem d_Packet_nibble_2 : decode b_Packet_nibble 2 = .ok (.iload_n 2, 1) := by decide +kernel
theorem d_Packet_nibble_3 : decode b_Packet_nibble 3 = .ok (.getstatic 22, 3) := by decide +kernel
theorem d_Packet_nibble_6 : decode b_Packet_nibble 6 = .ok (.arraylength, 1) := by decide +kernel
theorem d_Packet_nibble_7 : decode b_Packet_nibble 7 = .ok (.if_icmp .ge 41, 3) := by decide +kernel
theorem d_Packet_nibble_10 : decode b_Packet_nibble 10 = .ok (.getstatic 22, 3) := by decide +kernel
theorem d_Packet_nibble_13 : decode b_Packet_nibble 13 = .ok (.iload_n 2, 1) := by decide +kernel
theorem d_Packet_nibble_14 : decode b_Packet_nibble 14 = .ok (.iaload, 1) := by decide +kernel
theorem d_Packet_nibble_15 : decode b_Packet_nibble 15 = .ok (.aload_n 0, 1) := by decide +kernel
theorem d_Packet_nibble_16 : decode b_Packet_nibble 16 = .ok (.iload_n 1, 1) := by decide +kernel
theorem d_Packet_nibble_17 : decode b_Packet_nibble 17 = .ok (.invokevirtual 25, 3) := by decide +kernel
theorem d_Packet_nibble_20 : decode b_Packet_nibble 20 = .ok (.ixor, 1) := by decide +kernel
theorem d_Packet_nibble_21 : decode b_Packet_nibble 21 = .ok (.invokestatic 29, 3) := by decide +kernel
theorem d_Packet_nibble_24 : decode b_Packet_nibble 24 = .ok (.istore_n 3, 1) := by decide +kernel
theorem d_Packet_nibble_25 : decode b_Packet_nibble 25 = .ok (.iload_n 3, 1) := by decide +kernel
theorem d_Packet_nibble_26 : decode b_Packet_nibble 26 = .ok (.iconst 1, 1) := by decide +kernel
theorem d_Packet_nibble_27 : decode b_Packet_nibble 27 = .ok (.if_icmp .gt 15, 3) := by decide +kernel
theorem d_Packet_nibble_30 : decode b_Packet_nibble 30 = .ok (.aload_n 0, 1) := by decide +kernel
theorem d_Packet_nibble_31 : decode b_Packet_nibble 31 = .ok (.getfield 15, 3) := by decide +kernel
theorem d_Packet_nibble_34 : decode b_Packet_nibble 34 = .ok (.iconst 2, 1) := by decide +kernel
theorem d_Packet_nibble_35 : decode b_Packet_nibble 35 = .ok (.dup2, 1) := by decide +kernel
theorem d_Packet_nibble_36 : decode b_Packet_nibble 36 = .ok (.iaload, 1) := by decide +kernel
theorem d_Packet_nibble_37 : decode b_Packet_nibble 37 = .ok (.iload_n 3, 1) := by decide +kernel
theorem d_Packet_nibble_38 : decode b_Packet_nibble 38 = .ok (.iadd, 1) := by decide +kernel
theorem d_Packet_nibble_39 : decode b_Packet_nibble 39 = .ok (.iastore, 1) := by decide +kernel
theorem d_Packet_nibble_40 : decode b_Packet_nibble 40 = .ok (.iload_n 2, 1) := by decide +kernel
theorem d_Packet_nibble_41 : decode b_Packet_nibble 41 = .ok (.ireturn, 1) := by decide +kernel
theorem d_Packet_nibble_42 : decode b_Packet_nibble 42 = .ok (.iinc 2 1, 3) := by decide +kernel
theorem d_Packet_nibble_45 : decode b_Packet_nibble 45 = .ok (.goto (-43), 3) := by decide +kernel
theorem d_Packet_nibble_48 : decode b_Packet_nibble 48 = .ok (.aload_n 0, 1) := by decide +kernel
theorem d_Packet_nibble_49 : decode b_Packet_nibble 49 = .ok (.getfield 15, 3) := by decide +kernel
theorem d_Packet_nibble_52 : decode b_Packet_nibble 52 = .ok (.iconst 3, 1) := by decide +kernel
theorem d_Packet_nibble_53 : decode b_Packet_nibble 53 = .ok (.dup2, 1) := by decide +kernel
theorem d_Packet_nibble_54 : decode b_Packet_nibble 54 = .ok (.iaload, 1) := by decide +kernel
theorem d_Packet_nibble_55 : decode b_Packet_nibble 55 = .ok (.iconst 1, 1) := by decide +kernel
theorem d_Packet_nibble_56 : decode b_Packet_nibble 56 = .ok (.iadd, 1) := by decide +kernel
theorem d_Packet_nibble_57 : decode b_Packet_nibble 57 = .ok (.iastore, 1) := by decide +kernel
theorem d_Packet_nibble_58 : decode b_Packet_nibble 58 = .ok (.iconst (-1), 1) := by decide +kernel
theorem d_Packet_nibble_59 : decode b_Packet_nibble 59 = .ok (.ireturn, 1) := by decide +kernel
theorem d_Packet_byteAt_0 : decode b_Packet_byteAt 0 = .ok (.iload_n 1, 1) := by decide +kernel
theorem d_Packet_byteAt_1 : decode b_Packet_byteAt 1 = .ok (.ifCond .lt 9, 3) := by decide +kernel
theorem d_Packet_byteAt_4 : decode b_Packet_byteAt 4 = .ok (.iload_n 1, 1) := by decide +kernel
theorem d_Packet_byteAt_5 : decode b_Packet_byteAt 5 = .ok (.bipush 22, 2) := by decide +kernel
theorem d_Packet_byteAt_7 : decode b_Packet_byteAt 7 = .ok (.if_icmp .lt 7, 3) := by decide +kernel
theorem d_Packet_byteAt_10 : decode b_Packet_byteAt 10 = .ok (.iconst 0, 1) := by decide +kernel
theorem d_Packet_byteAt_11 : decode b_Packet_byteAt 11 = .ok (.goto 9, 3) := by decide +kernel
theorem d_Packet_byteAt_14 : decode b_Packet_byteAt 14 = .ok (.aload_n 0, 1) := by decide +kernel
theorem d_Packet_byteAt_15 : decode b_Packet_byteAt 15 = .ok (.getfield 9, 3) := by decide +kernel
theorem d_Packet_byteAt_18 : decode b_Packet_byteAt 18 = .ok (.iload_n 1, 1) := by decide +kernel
theorem d_Packet_byteAt_19 : decode b_Packet_byteAt 19 = .ok (.iaload, 1) := by decide +kernel
theorem d_Packet_byteAt_20 : decode b_Packet_byteAt 20 = .ok (.ireturn, 1) := by decide +kernel
theorem d_JInt_bitCount_0 : decode b_JInt_bitCount 0 = .ok (.iload_n 0, 1) := by decide +kernel
theorem d_JInt_bitCount_1 : decode b_JInt_bitCount 1 = .ok (.iload_n 0, 1) := by decide +kernel
theorem d_JInt_bitCount_2 : decode b_JInt_bitCount 2 = .ok (.iconst 1, 1) := by decide +kernel
theorem d_JInt_bitCount_3 : decode b_JInt_bitCount 3 = .ok (.iushr, 1) := by decide +kernel
theorem d_JInt_bitCount_4 : decode b_JInt_bitCount 4 = .ok (.ldc_w 265, 3) := by decide +kernel
theorem d_JInt_bitCount_7 : decode b_JInt_bitCount 7 = .ok (.iand, 1) := by decide +kernel
theorem d_JInt_bitCount_8 : decode b_JInt_bitCount 8 = .ok (.isub, 1) := by decide +kernel
theorem d_JInt_bitCount_9 : decode b_JInt_bitCount 9 = .ok (.istore_n 0, 1) := by decide +kernel
theorem d_JInt_bitCount_10 : decode b_JInt_bitCount 10 = .ok (.iload_n 0, 1) := by decide +kernel
theorem d_JInt_bitCount_11 : decode b_JInt_bitCount 11 = .ok (.ldc_w 266, 3) := by decide +kernel
theorem d_JInt_bitCount_14 : decode b_JInt_bitCount 14 = .ok (.iand, 1) := by decide +kernel
theorem d_JInt_bitCount_15 : decode b_JInt_bitCount 15 = .ok (.iload_n 0, 1) := by decide +kernel
theorem d_JInt_bitCount_16 : decode b_JInt_bitCount 16 = .ok (.iconst 2, 1) := by decide +kernel
theorem d_JInt_bitCount_17 : decode b_JInt_bitCount 17 = .ok (.iushr, 1) := by decide +kernel
theorem d_JInt_bitCount_18 : decode b_JInt_bitCount 18 = .ok (.ldc_w 266, 3) := by decide +kernel
theorem d_JInt_bitCount_21 : decode b_JInt_bitCount 21 = .ok (.iand, 1) := by decide +kernel
theorem d_JInt_bitCount_22 : decode b_JInt_bitCount 22 = .ok (.iadd, 1) := by decide +kernel
theorem d_JInt_bitCount_23 : decode b_JInt_bitCount 23 = .ok (.istore_n 0, 1) := by decide +kernel
theorem d_JInt_bitCount_24 : decode b_JInt_bitCount 24 = .ok (.iload_n 0, 1) := by decide +kernel
theorem d_JInt_bitCount_25 : decode b_JInt_bitCount 25 = .ok (.iload_n 0, 1) := by decide +kernel
theorem d_JInt_bitCount_26 : decode b_JInt_bitCount 26 = .ok (.iconst 4, 1) := by decide +kernel
theorem d_JInt_bitCount_27 : decode b_JInt_bitCount 27 = .ok (.iushr, 1) := by decide +kernel
theorem d_JInt_bitCount_28 : decode b_JInt_bitCount 28 = .ok (.iadd, 1) := by decide +kernel
theorem d_JInt_bitCount_29 : decode b_JInt_bitCount 29 = .ok (.ldc_w 267, 3) := by decide +kernel
theorem d_JInt_bitCount_32 : decode b_JInt_bitCount 32 = .ok (.iand, 1) := by decide +kernel
theorem d_JInt_bitCount_33 : decode b_JInt_bitCount 33 = .ok (.istore_n 0, 1) := by decide +kernel
theorem d_JInt_bitCount_34 : decode b_JInt_bitCount 34 = .ok (.iload_n 0, 1) := by decide +kernel
theorem d_JInt_bitCount_35 : decode b_JInt_bitCount 35 = .ok (.iload_n 0, 1) := by decide +kernel
theorem d_JInt_bitCount_36 : decode b_JInt_bitCount 36 = .ok (.bipush 8, 2) := by decide +kernel
theorem d_JInt_bitCount_38 : decode b_JInt_bitCount 38 = .ok (.iushr, 1) := by decide +kernel
theorem d_JInt_bitCount_39 : decode b_JInt_bitCount 39 = .ok (.iadd, 1) := by decide +kernel
theorem d_JInt_bitCount_40 : decode b_JInt_bitCount 40 = .ok (.istore_n 0, 1) := by decide +kernel
theorem d_JInt_bitCount_41 : decode b_JInt_bitCount 41 = .ok (.iload_n 0, 1) := by decide +kernel
theorem d_JInt_bitCount_42 : decode b_JInt_bitCount 42 = .ok (.iload_n 0, 1) := by decide +kernel
theorem d_JInt_bitCount_43 : decode b_JInt_bitCount 43 = .ok (.bipush 16, 2) := by decide +kernel
theorem d_JInt_bitCount_45 : decode b_JInt_bitCount 45 = .ok (.iushr, 1) := by decide +kernel
theorem d_JInt_bitCount_46 : decode b_JInt_bitCount 46 = .ok (.iadd, 1) := by decide +kernel
theorem d_JInt_bitCount_47 : decode b_JInt_bitCount 47 = .ok (.istore_n 0, 1) := by decide +kernel
theorem d_JInt_bitCount_48 : decode b_JInt_bitCount 48 = .ok (.iload_n 0, 1) := by decide +kernel
theorem d_JInt_bitCount_49 : decode b_JInt_bitCount 49 = .ok (.bipush 63, 2) := by decide +kernel
theorem d_JInt_bitCount_51 : decode b_JInt_bitCount 51 = .ok (.iand, 1) := by decide +kernel
theorem d_JInt_bitCount_52 : decode b_JInt_bitCount 52 = .ok (.ireturn, 1) := by decide +kernel
theorem d_Tuner_takeHeader_0 : decode b_Tuner_takeHeader 0 = .ok (.aload_n 0, 1) := by decide +kernel
theorem d_Tuner_takeHeader_1 : decode b_Tuner_takeHeader 1 = .ok (.invokevirtual 75, 3) := by decide +kernel
theorem d_Tuner_takeHeader_4 : decode b_Tuner_takeHeader 4 = .ok (.ifCond .ne 14, 3) := by decide +kernel
theorem d_Tuner_takeHeader_7 : decode b_Tuner_takeHeader 7 = .ok (.aload_n 0, 1) := by decide +kernel
theorem d_Tuner_takeHeader_8 : decode b_Tuner_takeHeader 8 = .ok (.getfield 36, 3) := by decide +kernel
theorem d_Tuner_takeHeader_11 : decode b_Tuner_takeHeader 11 = .ok (.iconst 1, 1) := by decide +kernel
theorem d_Tuner_takeHeader_12 : decode b_Tuner_takeHeader 12 = .ok (.dup2, 1) := by decide +kernel
theorem d_Tuner_takeHeader_13 : decode b_Tuner_takeHeader 13 = .ok (.iaload, 1) := by decide +kernel
theorem d_Tuner_takeHeader_14 : decode b_Tuner_takeHeader 14 = .ok (.iconst 1, 1) := by decide +kernel
theorem d_Tuner_takeHeader_15 : decode b_Tuner_takeHeader 15 = .ok (.iadd, 1) := by decide +kernel
theorem d_Tuner_takeHeader_16 : decode b_Tuner_takeHeader 16 = .ok (.iastore, 1) := by decide +kernel
theorem d_Tuner_takeHeader_17 : decode b_Tuner_takeHeader 17 = .ok (.return_, 1) := by decide +kernel
theorem d_Tuner_takeHeader_18 : decode b_Tuner_takeHeader 18 = .ok (.aload_n 0, 1) := by decide +kernel
theorem d_Tuner_takeHeader_19 : decode b_Tuner_takeHeader 19 = .ok (.getfield 21, 3) := by decide +kernel
theorem d_Tuner_takeHeader_22 : decode b_Tuner_takeHeader 22 = .ok (.iconst 4, 1) := by decide +kernel
theorem d_Tuner_takeHeader_23 : decode b_Tuner_takeHeader 23 = .ok (.iaload, 1) := by decide +kernel
theorem d_Tuner_takeHeader_24 : decode b_Tuner_takeHeader 24 = .ok (.istore_n 2, 1) := by decide +kernel
theorem d_Tuner_takeHeader_25 : decode b_Tuner_takeHeader 25 = .ok (.aload_n 0, 1) := by decide +kernel
theorem d_Tuner_takeHeader_26 : decode b_Tuner_takeHeader 26 = .ok (.iload_n 1, 1) := by decide +kernel
theorem d_Tuner_takeHeader_27 : decode b_Tuner_takeHeader 27 = .ok (.iload_n 2, 1) := by decide +kernel
theorem d_Tuner_takeHeader_28 : decode b_Tuner_takeHeader 28 = .ok (.iconst 2, 1) := by decide +kernel
theorem d_Tuner_takeHeader_29 : decode b_Tuner_takeHeader 29 = .ok (.irem, 1) := by decide +kernel
theorem d_Tuner_takeHeader_30 : decode b_Tuner_takeHeader 30 = .ok (.iconst 1, 1) := by decide +kernel
theorem d_Tuner_takeHeader_31 : decode b_Tuner_takeHeader 31 = .ok (.if_icmp .ne 7, 3) := by decide +kernel
theorem d_Tuner_takeHeader_34 : decode b_Tuner_takeHeader 34 = .ok (.iconst 1, 1) := by decide +kernel
theorem d_Tuner_takeHeader_35 : decode b_Tuner_takeHeader 35 = .ok (.goto 4, 3) := by decide +kernel
theorem d_Tuner_takeHeader_38 : decode b_Tuner_takeHeader 38 = .ok (.iconst 0, 1) := by decide +kernel
theorem d_Tuner_takeHeader_39 : decode b_Tuner_takeHeader 39 = .ok (.invokevirtual 79, 3) := by decide +kernel
theorem d_Tuner_takeHeader_42 : decode b_Tuner_takeHeader 42 = .ok (.aload_n 0, 1) := by decide +kernel
theorem d_Tuner_takeHeader_43 : decode b_Tuner_takeHeader 43 = .ok (.getfield 21, 3) := by decide +kernel
theorem d_Tuner_takeHeader_46 : decode b_Tuner_takeHeader 46 = .ok (.iconst 0, 1) := by decide +kernel
theorem d_Tuner_takeHeader_47 : decode b_Tuner_takeHeader 47 = .ok (.iaload, 1) := by decide +kernel
theorem d_Tuner_takeHeader_48 : decode b_Tuner_takeHeader 48 = .ok (.bipush 15, 2) := by decide +kernel
theorem d_Tuner_takeHeader_50 : decode b_Tuner_takeHeader 50 = .ok (.if_icmp .ne 14, 3) := by decide +kernel
theorem d_Tuner_takeHeader_53 : decode b_Tuner_takeHeader 53 = .ok (.aload_n 0, 1) := by decide +kernel
theorem d_Tuner_takeHeader_54 : decode b_Tuner_takeHeader 54 = .ok (.getfield 21, 3) := by decide +kernel
theorem d_Tuner_takeHeader_57 : decode b_Tuner_takeHeader 57 = .ok (.iconst 1, 1) := by decide +kernel
theorem d_Tuner_takeHeader_58 : decode b_Tuner_takeHeader 58 = .ok (.iaload, 1) := by decide +kernel
theorem d_Tuner_takeHeader_59 : decode b_Tuner_takeHeader 59 = .ok (.bipush 15, 2) := by decide +kernel
theorem d_Tuner_takeHeader_61 : decode b_Tuner_takeHeader 61 = .ok (.if_icmp .eq 8, 3) := by decide +kernel
theorem d_Tuner_takeHeader_64 : decode b_Tuner_takeHeader 64 = .ok (.aload_n 0, 1) := by decide +kernel
theorem d_Tuner_takeHeader_65 : decode b_Tuner_takeHeader 65 = .ok (.iload_n 1, 1) := by decide +kernel
theorem d_Tuner_takeHeader_66 : decode b_Tuner_takeHeader 66 = .ok (.invokevirtual 83, 3) := by decide +kernel
theorem d_Tuner_takeHeader_69 : decode b_Tuner_takeHeader 69 = .ok (.aload_n 0, 1) := by decide +kernel
theorem d_Tuner_takeHeader_70 : decode b_Tuner_takeHeader 70 = .ok (.aload_n 0, 1) := by decide +kernel
theorem d_Tuner_takeHeader_71 : decode b_Tuner_takeHeader 71 = .ok (.getfield 11, 3) := by decide +kernel
theorem d_Tuner_takeHeader_74 : decode b_Tuner_takeHeader 74 = .ok (.iload_n 1, 1) := by decide +kernel
theorem d_Tuner_takeHeader_75 : decode b_Tuner_takeHeader 75 = .ok (.aaload, 1) := by decide +kernel
theorem d_Tuner_takeHeader_76 : decode b_Tuner_takeHeader 76 = .ok (.iload_n 2, 1) := by decide +kernel
theorem d_Tuner_takeHeader_77 : decode b_Tuner_takeHeader 77 = .ok (.iconst 2, 1) := by decide +kernel
theorem d_Tuner_takeHeader_78 : decode b_Tuner_takeHeader 78 = .ok (.idiv, 1) := by decide +kernel
theorem d_Tuner_takeHeader_79 : decode b_Tuner_takeHeader 79 = .ok (.iconst 2, 1) := by decide +kernel
theorem d_Tuner_takeHeader_80 : decode b_Tuner_takeHeader 80 = .ok (.irem, 1) := by decide +kernel
theorem d_Tuner_takeHeader_81 : decode b_Tuner_takeHeader 81 = .ok (.ifCond .ne 7, 3) := by decide +kernel
theorem d_Tuner_takeHeader_84 : decode b_Tuner_takeHeader 84 = .ok (.iconst 1, 1) := by decide +kernel
theorem d_Tuner_takeHeader_85 : decode b_Tuner_takeHeader 85 = .ok (.goto 4, 3) := by decide +kernel
theorem d_Tuner_takeHeader_88 : decode b_Tuner_takeHeader 88 = .ok (.iconst 0, 1) := by decide +kernel
theorem d_Tuner_takeHeader_89 : decode b_Tuner_takeHeader 89 = .ok (.invokevirtual 86, 3) := by decide +kernel
theorem d_Tuner_takeHeader_92 : decode b_Tuner_takeHeader 92 = .ok (.return_, 1) := by decide +kernel
theorem d_Tuner_readHeader_0 : decode b_Tuner_readHeader 0 = .ok (.iconst 0, 1) := by decide +kernel
theorem d_Tuner_readHeader_1 : decode b_Tuner_readHeader 1 = .ok (.istore_n 1, 1) := by decide +kernel
theorem d_Tuner_readHeader_2 : decode b_Tuner_readHeader 2 = .ok (.iload_n 1, 1) := by decide +kernel
theorem d_Tuner_readHeader_3 : decode b_Tuner_readHeader 3 = .ok (.aload_n 0, 1) := by decide +kernel
theorem d_Tuner_readHeader_4 : decode b_Tuner_readHeader 4 = .ok (.getfield 21, 3) := by decide +kernel
theorem d_Tuner_readHeader_7 : decode b_Tuner_readHeader 7 = .ok (.arraylength, 1) := by decide +kernel
theorem d_Tuner_readHeader_8 : decode b_Tuner_readHeader 8 = .ok (.if_icmp .ge 37, 3) := by decide +kernel
theorem d_Tuner_readHeader_11 : decode b_Tuner_readHeader 11 = .ok (.aload_n 0, 1) := by decide +kernel
theorem d_Tuner_readHeader_12 : decode b_Tuner_readHeader 12 = .ok (.getfield 21, 3) := by decide +kernel
theorem d_Tuner_readHeader_15 : decode b_Tuner_readHeader 15 = .ok (.iload_n 1, 1) := by decide +kernel
theorem d_Tuner_readHeader_16 : decode b_Tuner_readHeader 16 = .ok (.aload_n 0, 1) := by decide +kernel
theorem d_Tuner_readHeader_17 : decode b_Tuner_readHeader 17 = .ok (.getfield 24, 3) := by decide +kernel
theorem d_Tuner_readHeader_20 : decode b_Tuner_readHeader 20 = .ok (.iconst 2, 1) := by decide +kernel
theorem d_Tuner_readHeader_21 : decode b_Tuner_readHeader 21 = .ok (.iload_n 1, 1) := by decide +kernel
theorem d_Tuner_readHeader_22 : decode b_Tuner_readHeader 22 = .ok (.iadd, 1) := by decide +kernel
theorem d_Tuner_readHeader_23 : decode b_Tuner_readHeader 23 = .ok (.invokevirtual 46, 3) := by decide +kernel
theorem d_Tuner_readHeader_26 : decode b_Tuner_readHeader 26 = .ok (.iastore, 1) := by decide +kernel
theorem d_Tuner_readHeader_27 : decode b_Tuner_readHeader 27 = .ok (.aload_n 0, 1) := by decide +kernel
theorem d_Tuner_readHeader_28 : decode b_Tuner_readHeader 28 = .ok (.getfield 21, 3) := by decide +kernel
theorem d_Tuner_readHeader_31 : decode b_Tuner_readHeader 31 = .ok (.iload_n 1, 1) := by decide +kernel
theorem d_Tuner_readHeader_32 : decode b_Tuner_readHeader 32 = .ok (.iaload, 1) := by decide +kernel
theorem d_Tuner_readHeader_33 : decode b_Tuner_readHeader 33 = .ok (.iconst (-1), 1) := by decide +kernel
theorem d_Tuner_readHeader_34 : decode b_Tuner_readHeader 34 = .ok (.if_icmp .ne 5, 3) := by decide +kernel
theorem d_Tuner_readHeader_37 : decode b_Tuner_readHeader 37 = .ok (.iconst 0, 1) := by decide +kernel
theorem d_Tuner_readHeader_38 : decode b_Tuner_readHeader 38 = .ok (.ireturn, 1) := by decide +kernel
theorem d_Tuner_readHeader_39 : decode b_Tuner_readHeader 39 = .ok (.iinc 1 1, 3) := by decide +kernel
theorem d_Tuner_readHeader_42 : decode b_Tuner_readHeader 42 = .ok (.goto (-40), 3) := by decide +kernel
theorem d_Tuner_readHeader_45 : decode b_Tuner_readHeader 45 = .ok (.iconst 1, 1) := by decide +kernel
theorem d_Tuner_readHeader_46 : decode b_Tuner_readHeader 46 = .ok (.ireturn, 1) := by decide +kernel
theorem d_Tuner_completeComing_0 : decode b_Tuner_completeComing 0 = .ok (.iconst 0, 1) := by decide +kernel
theorem d_Tuner_completeComing_1 : decode b_Tuner_completeComing 1 = .ok (.istore_n 3, 1) := by decide +kernel
theorem d_Tuner_completeComing_2 : decode b_Tuner_completeComing 2 = .ok (.iload_n 3, 1) := by decide +kernel
theorem d_Tuner_completeComing_3 : decode b_Tuner_completeComing 3 = .ok (.bipush 8, 2) := by decide +kernel
theorem d_Tuner_completeComing_5 : decode b_Tuner_completeComing 5 = .ok (.if_icmp .ge 50, 3) := by decide +kernel
theorem d_Tuner_completeComing_8 : decode b_Tuner_completeComing 8 = .ok (.iload_n 2, 1) := by decide +kernel
theorem d_Tuner_completeComing_9 : decode b_Tuner_completeComing 9 = .ok (.ifCond .ne 8, 3) := by decide +kernel
theorem d_Tuner_completeComing_12 : decode b_Tuner_completeComing 12 = .ok (.iload_n 3, 1) := by decide +kernel
theorem d_Tuner_completeComing_13 : decode b_Tuner_completeComing 13 = .ok (.iload_n 1, 1) := by decide +kernel
theorem d_Tuner_completeComing_14 : decode b_Tuner_completeComing 14 = .ok (.if_icmp .ne 35, 3) := by decide +kernel
theorem d_Tuner_completeComing_17 : decode b_Tuner_completeComing 17 = .ok (.aload_n 0, 1) := by decide +kernel
theorem d_Tuner_completeComing_18 : decode b_Tuner_completeComing 18 = .ok (.getfield 11, 3) := by decide +kernel
theorem d_Tuner_completeComing_21 : decode b_Tuner_completeComing 21 = .ok (.iload_n 3, 1) := by decide +kernel
theorem d_Tuner_completeComing_22 : decode b_Tuner_completeComing 22 = .ok (.aaload, 1) := by decide +kernel
theorem d_Tuner_completeComing_23 : decode b_Tuner_completeComing 23 = .ok (.getfield 56, 3) := by decide +kernel
theorem d_Tuner_completeComing_26 : decode b_Tuner_completeComing 26 = .ok (.ifCond .eq 23, 3) := by decide +kernel
theorem d_Tuner_completeComing_29 : decode b_Tuner_completeComing 29 = .ok (.aload_n 0, 1) := by decide +kernel
theorem d_Tuner_completeComing_30 : decode b_Tuner_completeComing 30 = .ok (.getfield 28, 3) := by decide +kernel
theorem d_Tuner_completeComing_33 : decode b_Tuner_completeComing 33 = .ok (.aload_n 0, 1) := by decide +kernel
theorem d_Tuner_completeComing_34 : decode b_Tuner_completeComing 34 = .ok (.getfield 11, 3) := by decide +kernel
theorem d_Tuner_completeComing_37 : decode b_Tuner_completeComing 37 = .ok (.iload_n 3, 1) := by decide +kernel
theorem d_Tuner_completeComing_38 : decode b_Tuner_completeComing 38 = .ok (.aaload, 1) := by decide +kernel
theorem d_Tuner_completeComing_39 : decode b_Tuner_completeComing 39 = .ok (.aload_n 0, 1) := by decide +kernel
theorem d_Tuner_completeComing_40 : decode b_Tuner_completeComing 40 = .ok (.getfield 32, 3) := by decide +kernel
theorem d_Tuner_completeComing_43 : decode b_Tuner_completeComing 43 = .ok (.getfield 90, 3) := by decide +kernel
theorem d_Tuner_completeComing_46 : decode b_Tuner_completeComing 46 = .ok (.invokevirtual 96, 3) := by decide +kernel
theorem d_Tuner_completeComing_49 : decode b_Tuner_completeComing 49 = .ok (.iinc 3 1, 3) := by decide +kernel
theorem d_Tuner_completeComing_52 : decode b_Tuner_completeComing 52 = .ok (.goto (-50), 3) := by decide +kernel
theorem d_Tuner_completeComing_55 : decode b_Tuner_completeComing 55 = .ok (.return_, 1) := by decide +kernel
theorem d_Shelf_complete_0 : decode b_Shelf_complete 0 = .ok (.aload_n 0, 1) := by decide +kernel
theorem d_Shelf_complete_1 : decode b_Shelf_complete 1 = .ok (.aload_n 1, 1) := by decide +kernel
theorem d_Shelf_complete_2 : decode b_Shelf_complete 2 = .ok (.getfield 26, 3) := by decide +kernel
theorem d_Shelf_complete_5 : decode b_Shelf_complete 5 = .ok (.iload_n 2, 1) := by decide +kernel
theorem d_Shelf_complete_6 : decode b_Shelf_complete 6 = .ok (.invokevirtual 30, 3) := by decide +kernel
theorem d_Shelf_complete_9 : decode b_Shelf_complete 9 = .ok (.astore_n 3, 1) := by decide +kernel
theorem d_Shelf_complete_10 : decode b_Shelf_complete 10 = .ok (.aload_n 3, 1) := by decide +kernel
theorem d_Shelf_complete_11 : decode b_Shelf_complete 11 = .ok (.aload_n 1, 1) := by decide +kernel
theorem d_Shelf_complete_12 : decode b_Shelf_complete 12 = .ok (.invokevirtual 34, 3) := by decide +kernel
theorem d_Shelf_complete_15 : decode b_Shelf_complete 15 = .ok (.aload_n 3, 1) := by decide +kernel
theorem d_Shelf_complete_16 : decode b_Shelf_complete 16 = .ok (.aload_n 0, 1) := by decide +kernel
theorem d_Shelf_complete_17 : decode b_Shelf_complete 17 = .ok (.getfield 9, 3) := by decide +kernel
theorem d_Shelf_complete_20 : decode b_Shelf_complete 20 = .ok (.iconst 5, 1) := by decide +kernel
theorem d_Shelf_complete_21 : decode b_Shelf_complete 21 = .ok (.iaload, 1) := by decide +kernel
theorem d_Shelf_complete_22 : decode b_Shelf_complete 22 = .ok (.putfield 38, 3) := by decide +kernel
theorem d_Shelf_complete_25 : decode b_Shelf_complete 25 = .ok (.aload_n 0, 1) := by decide +kernel
theorem d_Shelf_complete_26 : decode b_Shelf_complete 26 = .ok (.getfield 9, 3) := by decide +kernel
theorem d_Shelf_complete_29 : decode b_Shelf_complete 29 = .ok (.iconst 5, 1) := by decide +kernel
theorem d_Shelf_complete_30 : decode b_Shelf_complete 30 = .ok (.dup2, 1) := by decide +kernel
theorem d_Shelf_complete_31 : decode b_Shelf_complete 31 = .ok (.iaload, 1) := by decide +kernel
theorem d_Shelf_complete_32 : decode b_Shelf_complete 32 = .ok (.iconst 1, 1) := by decide +kernel
theorem d_Shelf_complete_33 : decode b_Shelf_complete 33 = .ok (.iadd, 1) := by decide +kernel
theorem d_Shelf_complete_34 : decode b_Shelf_complete 34 = .ok (.iastore, 1) := by decide +kernel
theorem d_Shelf_complete_35 : decode b_Shelf_complete 35 = .ok (.aload_n 1, 1) := by decide +kernel
theorem d_Shelf_complete_36 : decode b_Shelf_complete 36 = .ok (.iconst 0, 1) := by decide +kernel
theorem d_Shelf_complete_37 : decode b_Shelf_complete 37 = .ok (.putfield 22, 3) := by decide +kernel
theorem d_Shelf_complete_40 : decode b_Shelf_complete 40 = .ok (.return_, 1) := by decide +kernel
theorem d_Shelf_placeFor_0 : decode b_Shelf_placeFor 0 = .ok (.aload_n 0, 1) := by decide +kernel
theorem d_Shelf_placeFor_1 : decode b_Shelf_placeFor 1 = .ok (.iload_n 1, 1) := by decide +kernel
theorem d_Shelf_placeFor_2 : decode b_Shelf_placeFor 2 = .ok (.invokevirtual 41, 3) := by decide +kernel
theorem d_Shelf_placeFor_5 : decode b_Shelf_placeFor 5 = .ok (.astore_n 3, 1) := by decide +kernel
theorem d_Shelf_placeFor_6 : decode b_Shelf_placeFor 6 = .ok (.aload_n 3, 1) := by decide +kernel
theorem d_Shelf_placeFor_7 : decode b_Shelf_placeFor 7 = .ok (.ifnull 5, 3) := by decide +kernel
theorem d_Shelf_placeFor_10 : decode b_Shelf_placeFor 10 = .ok (.aload_n 3, 1) := by decide +kernel
theorem d_Shelf_placeFor_11 : decode b_Shelf_placeFor 11 = .ok (.areturn, 1) := by decide +kernel
theorem d_Shelf_placeFor_12 : decode b_Shelf_placeFor 12 = .ok (.iconst 0, 1) := by decide +kernel
theorem d_Shelf_placeFor_13 : decode b_Shelf_placeFor 13 = .ok (.istore 4, 2) := by decide +kernel
theorem d_Shelf_placeFor_15 : decode b_Shelf_placeFor 15 = .ok (.iload 4, 2) := by decide +kernel
theorem d_Shelf_placeFor_17 : decode b_Shelf_placeFor 17 = .ok (.aload_n 0, 1) := by decide +kernel
theorem d_Shelf_placeFor_18 : decode b_Shelf_placeFor 18 = .ok (.getfield 17, 3) := by decide +kernel
theorem d_Shelf_placeFor_21 : decode b_Shelf_placeFor 21 = .ok (.arraylength, 1) := by decide +kernel
theorem d_Shelf_placeFor_22 : decode b_Shelf_placeFor 22 = .ok (.if_icmp .ge 30, 3) := by decide +kernel
theorem d_Shelf_placeFor_25 : decode b_Shelf_placeFor 25 = .ok (.aload_n 0, 1) := by decide +kernel
theorem d_Shelf_placeFor_26 : decode b_Shelf_placeFor 26 = .ok (.getfield 17, 3) := by decide +kernel
theorem d_Shelf_placeFor_29 : decode b_Shelf_placeFor 29 = .ok (.iload 4, 2) := by decide +kernel
theorem d_Shelf_placeFor_31 : decode b_Shelf_placeFor 31 = .ok (.aaload, 1) := by decide +kernel
theorem d_Shelf_placeFor_32 : decode b_Shelf_placeFor 32 = .ok (.getfield 22, 3) := by decide +kernel
theorem d_Shelf_placeFor_35 : decode b_Shelf_placeFor 35 = .ok (.ifCond .ne 11, 3) := by decide +kernel
theorem d_Shelf_placeFor_38 : decode b_Shelf_placeFor 38 = .ok (.aload_n 0, 1) := by decide +kernel
theorem d_Shelf_placeFor_39 : decode b_Shelf_placeFor 39 = .ok (.getfield 17, 3) := by decide +kernel
theorem d_Shelf_placeFor_42 : decode b_Shelf_placeFor 42 = .ok (.iload 4, 2) := by decide +kernel
theorem d_Shelf_placeFor_44 : decode b_Shelf_placeFor 44 = .ok (.aaload, 1) := by decide +kernel
theorem d_Shelf_placeFor_45 : decode b_Shelf_placeFor 45 = .ok (.areturn, 1) := by decide +kernel
theorem d_Shelf_placeFor_46 : decode b_Shelf_placeFor 46 = .ok (.iinc 4 1, 3) := by decide +kernel
theorem d_Shelf_placeFor_49 : decode b_Shelf_placeFor 49 = .ok (.goto (-34), 3) := by decide +kernel
theorem d_Shelf_placeFor_52 : decode b_Shelf_placeFor 52 = .ok (.aload_n 0, 1) := by decide +kernel
theorem d_Shelf_placeFor_53 : decode b_Shelf_placeFor 53 = .ok (.iload_n 2, 1) := by decide +kernel
theorem d_Shelf_placeFor_54 : decode b_Shelf_placeFor 54 = .ok (.invokevirtual 45, 3) := by decide +kernel
theorem d_Shelf_placeFor_57 : decode b_Shelf_placeFor 57 = .ok (.areturn, 1) := by decide +kernel
