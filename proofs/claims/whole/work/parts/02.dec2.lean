theorem d_Packet_empty_0 : decode b_Packet_empty 0 = .ok (.aload_n 0, 1) := by decide +kernel
theorem d_Packet_empty_1 : decode b_Packet_empty 1 = .ok (.getfield 18, 3) := by decide +kernel
theorem d_Packet_empty_4 : decode b_Packet_empty 4 = .ok (.istore_n 1, 1) := by decide +kernel
theorem d_Packet_empty_5 : decode b_Packet_empty 5 = .ok (.aload_n 0, 1) := by decide +kernel
theorem d_Packet_empty_6 : decode b_Packet_empty 6 = .ok (.iconst 0, 1) := by decide +kernel
theorem d_Packet_empty_7 : decode b_Packet_empty 7 = .ok (.putfield 18, 3) := by decide +kernel
theorem d_Packet_empty_10 : decode b_Packet_empty 10 = .ok (.iload_n 1, 1) := by decide +kernel
theorem d_Packet_empty_11 : decode b_Packet_empty 11 = .ok (.ireturn, 1) := by decide +kernel
theorem d_Recv_reset_0 : decode b_Recv_reset 0 = .ok (.aload_n 0, 1) := by decide +kernel
theorem d_Recv_reset_1 : decode b_Recv_reset 1 = .ok (.getfield 18, 3) := by decide +kernel
theorem d_Recv_reset_4 : decode b_Recv_reset 4 = .ok (.invokevirtual 81, 3) := by decide +kernel
theorem d_Recv_reset_7 : decode b_Recv_reset 7 = .ok (.ireturn, 1) := by decide +kernel
theorem d_Recv_key_0 : decode b_Recv_key 0 = .ok (.iload_n 1, 1) := by decide +kernel
theorem d_Recv_key_1 : decode b_Recv_key 1 = .ok (.ifCond .lt 9, 3) := by decide +kernel
theorem d_Recv_key_4 : decode b_Recv_key 4 = .ok (.iload_n 1, 1) := by decide +kernel
theorem d_Recv_key_5 : decode b_Recv_key 5 = .ok (.bipush 15, 2) := by decide +kernel
theorem d_Recv_key_7 : decode b_Recv_key 7 = .ok (.if_icmp .le 5, 3) := by decide +kernel
theorem d_Recv_key_10 : decode b_Recv_key 10 = .ok (.iconst 0, 1) := by decide +kernel
theorem d_Recv_key_11 : decode b_Recv_key 11 = .ok (.ireturn, 1) := by decide +kernel
theorem d_Recv_key_12 : decode b_Recv_key 12 = .ok (.iload_n 1, 1) := by decide +kernel
theorem d_Recv_key_13 : decode b_Recv_key 13 = .ok (.bipush 9, 2) := by decide +kernel
theorem d_Recv_key_15 : decode b_Recv_key 15 = .ok (.if_icmp .gt 14, 3) := by decide +kernel
theorem d_Recv_key_18 : decode b_Recv_key 18 = .ok (.aload_n 0, 1) := by decide +kernel
theorem d_Recv_key_19 : decode b_Recv_key 19 = .ok (.getfield 45, 3) := by decide +kernel
theorem d_Recv_key_22 : decode b_Recv_key 22 = .ok (.iload_n 1, 1) := by decide +kernel
theorem d_Recv_key_23 : decode b_Recv_key 23 = .ok (.invokevirtual 89, 3) := by decide +kernel
theorem d_Recv_key_26 : decode b_Recv_key 26 = .ok (.goto 11, 3) := by decide +kernel
theorem d_Recv_key_29 : decode b_Recv_key 29 = .ok (.aload_n 0, 1) := by decide +kernel
theorem d_Recv_key_30 : decode b_Recv_key 30 = .ok (.getfield 45, 3) := by decide +kernel
theorem d_Recv_key_33 : decode b_Recv_key 33 = .ok (.iload_n 1, 1) := by decide +kernel
theorem d_Recv_key_34 : decode b_Recv_key 34 = .ok (.invokevirtual 93, 3) := by decide +kernel
theorem d_Recv_key_37 : decode b_Recv_key 37 = .ok (.ireturn, 1) := by decide +kernel
theorem d_Remote_pressDigit_0 : decode b_Remote_pressDigit 0 = .ok (.aload_n 0, 1) := by decide +kernel
theorem d_Remote_pressDigit_1 : decode b_Remote_pressDigit 1 = .ok (.getfield 36, 3) := by decide +kernel
theorem d_Remote_pressDigit_4 : decode b_Remote_pressDigit 4 = .ok (.lookupswitch 65 #[(0, 28), (1, 53)], 28) := by decide +kernel
theorem d_Remote_pressDigit_32 : decode b_Remote_pressDigit 32 = .ok (.iload_n 1, 1) := by decide +kernel
theorem d_Remote_pressDigit_33 : decode b_Remote_pressDigit 33 = .ok (.iconst 1, 1) := by decide +kernel
theorem d_Remote_pressDigit_34 : decode b_Remote_pressDigit 34 = .ok (.if_icmp .lt 9, 3) := by decide +kernel
theorem d_Remote_pressDigit_37 : decode b_Remote_pressDigit 37 = .ok (.iload_n 1, 1) := by decide +kernel
theorem d_Remote_pressDigit_38 : decode b_Remote_pressDigit 38 = .ok (.bipush 8, 2) := by decide +kernel
theorem d_Remote_pressDigit_40 : decode b_Remote_pressDigit 40 = .ok (.if_icmp .le 5, 3) := by decide +kernel
theorem d_Remote_pressDigit_43 : decode b_Remote_pressDigit 43 = .ok (.iconst 0, 1) := by decide +kernel
theorem d_Remote_pressDigit_44 : decode b_Remote_pressDigit 44 = .ok (.ireturn, 1) := by decide +kernel
theorem d_Remote_pressDigit_45 : decode b_Remote_pressDigit 45 = .ok (.aload_n 0, 1) := by decide +kernel
theorem d_Remote_pressDigit_46 : decode b_Remote_pressDigit 46 = .ok (.iload_n 1, 1) := by decide +kernel
theorem d_Remote_pressDigit_47 : decode b_Remote_pressDigit 47 = .ok (.putfield 39, 3) := by decide +kernel
theorem d_Remote_pressDigit_50 : decode b_Remote_pressDigit 50 = .ok (.aload_n 0, 1) := by decide +kernel
theorem d_Remote_pressDigit_51 : decode b_Remote_pressDigit 51 = .ok (.iconst 1, 1) := by decide +kernel
theorem d_Remote_pressDigit_52 : decode b_Remote_pressDigit 52 = .ok (.putfield 36, 3) := by decide +kernel
theorem d_Remote_pressDigit_55 : decode b_Remote_pressDigit 55 = .ok (.iconst 1, 1) := by decide +kernel
theorem d_Remote_pressDigit_56 : decode b_Remote_pressDigit 56 = .ok (.ireturn, 1) := by decide +kernel
theorem d_Remote_pressDigit_57 : decode b_Remote_pressDigit 57 = .ok (.aload_n 0, 1) := by decide +kernel
theorem d_Remote_pressDigit_58 : decode b_Remote_pressDigit 58 = .ok (.iload_n 1, 1) := by decide +kernel
theorem d_Remote_pressDigit_59 : decode b_Remote_pressDigit 59 = .ok (.putfield 42, 3) := by decide +kernel
theorem d_Remote_pressDigit_62 : decode b_Remote_pressDigit 62 = .ok (.aload_n 0, 1) := by decide +kernel
theorem d_Remote_pressDigit_63 : decode b_Remote_pressDigit 63 = .ok (.iconst 2, 1) := by decide +kernel
theorem d_Remote_pressDigit_64 : decode b_Remote_pressDigit 64 = .ok (.putfield 36, 3) := by decide +kernel
theorem d_Remote_pressDigit_67 : decode b_Remote_pressDigit 67 = .ok (.iconst 1, 1) := by decide +kernel
theorem d_Remote_pressDigit_68 : decode b_Remote_pressDigit 68 = .ok (.ireturn, 1) := by decide +kernel
theorem d_Remote_pressDigit_69 : decode b_Remote_pressDigit 69 = .ok (.aload_n 0, 1) := by decide +kernel
theorem d_Remote_pressDigit_70 : decode b_Remote_pressDigit 70 = .ok (.iconst 0, 1) := by decide +kernel
theorem d_Remote_pressDigit_71 : decode b_Remote_pressDigit 71 = .ok (.putfield 36, 3) := by decide +kernel
theorem d_Remote_pressDigit_74 : decode b_Remote_pressDigit 74 = .ok (.aload_n 0, 1) := by decide +kernel
theorem d_Remote_pressDigit_75 : decode b_Remote_pressDigit 75 = .ok (.sipush 256, 3) := by decide +kernel
theorem d_Remote_pressDigit_78 : decode b_Remote_pressDigit 78 = .ok (.aload_n 0, 1) := by decide +kernel
theorem d_Remote_pressDigit_79 : decode b_Remote_pressDigit 79 = .ok (.getfield 39, 3) := by decide +kernel
theorem d_Remote_pressDigit_82 : decode b_Remote_pressDigit 82 = .ok (.bipush 8, 2) := by decide +kernel
theorem d_Remote_pressDigit_84 : decode b_Remote_pressDigit 84 = .ok (.irem, 1) := by decide +kernel
theorem d_Remote_pressDigit_85 : decode b_Remote_pressDigit 85 = .ok (.imul, 1) := by decide +kernel
theorem d_Remote_pressDigit_86 : decode b_Remote_pressDigit 86 = .ok (.bipush 16, 2) := by decide +kernel
theorem d_Remote_pressDigit_88 : decode b_Remote_pressDigit 88 = .ok (.aload_n 0, 1) := by decide +kernel
theorem d_Remote_pressDigit_89 : decode b_Remote_pressDigit 89 = .ok (.getfield 42, 3) := by decide +kernel
theorem d_Remote_pressDigit_92 : decode b_Remote_pressDigit 92 = .ok (.imul, 1) := by decide +kernel
theorem d_Remote_pressDigit_93 : decode b_Remote_pressDigit 93 = .ok (.iadd, 1) := by decide +kernel
theorem d_Remote_pressDigit_94 : decode b_Remote_pressDigit 94 = .ok (.iload_n 1, 1) := by decide +kernel
theorem d_Remote_pressDigit_95 : decode b_Remote_pressDigit 95 = .ok (.iadd, 1) := by decide +kernel
theorem d_Remote_pressDigit_96 : decode b_Remote_pressDigit 96 = .ok (.invokevirtual 45, 3) := by decide +kernel
theorem d_Remote_pressDigit_99 : decode b_Remote_pressDigit 99 = .ok (.iconst 1, 1) := by decide +kernel
theorem d_Remote_pressDigit_100 : decode b_Remote_pressDigit 100 = .ok (.ireturn, 1) := by decide +kernel
theorem d_Remote_want_0 : decode b_Remote_want 0 = .ok (.aload_n 0, 1) := by decide +kernel
theorem d_Remote_want_1 : decode b_Remote_want 1 = .ok (.iload_n 1, 1) := by decide +kernel
theorem d_Remote_want_2 : decode b_Remote_want 2 = .ok (.putfield 18, 3) := by decide +kernel
theorem d_Remote_want_5 : decode b_Remote_want 5 = .ok (.aload_n 0, 1) := by decide +kernel
theorem d_Remote_want_6 : decode b_Remote_want 6 = .ok (.getfield 12, 3) := by decide +kernel
theorem d_Remote_want_9 : decode b_Remote_want 9 = .ok (.iconst 0, 1) := by decide +kernel
theorem d_Remote_want_10 : decode b_Remote_want 10 = .ok (.putfield 26, 3) := by decide +kernel
theorem d_Remote_want_13 : decode b_Remote_want 13 = .ok (.aload_n 0, 1) := by decide +kernel
theorem d_Remote_want_14 : decode b_Remote_want 14 = .ok (.iconst 0, 1) := by decide +kernel
theorem d_Remote_want_15 : decode b_Remote_want 15 = .ok (.putfield 53, 3) := by decide +kernel
theorem d_Remote_want_18 : decode b_Remote_want 18 = .ok (.return_, 1) := by decide +kernel
theorem d_Remote_pressCommand_0 : decode b_Remote_pressCommand 0 = .ok (.aload_n 0, 1) := by decide +kernel
theorem d_Remote_pressCommand_1 : decode b_Remote_pressCommand 1 = .ok (.iconst 0, 1) := by decide +kernel
theorem d_Remote_pressCommand_2 : decode b_Remote_pressCommand 2 = .ok (.putfield 36, 3) := by decide +kernel
theorem d_Remote_pressCommand_5 : decode b_Remote_pressCommand 5 = .ok (.iload_n 1, 1) := by decide +kernel
theorem d_Remote_pressCommand_6 : decode b_Remote_pressCommand 6 = .ok (.bipush 14, 2) := by decide +kernel
theorem d_Remote_pressCommand_8 : decode b_Remote_pressCommand 8 = .ok (.if_icmp .ne 8, 3) := by decide +kernel
theorem d_Remote_pressCommand_11 : decode b_Remote_pressCommand 11 = .ok (.aload_n 0, 1) := by decide +kernel
theorem d_Remote_pressCommand_12 : decode b_Remote_pressCommand 12 = .ok (.invokevirtual 49, 3) := by decide +kernel
theorem d_Remote_pressCommand_15 : decode b_Remote_pressCommand 15 = .ok (.ireturn, 1) := by decide +kernel
theorem d_Remote_pressCommand_16 : decode b_Remote_pressCommand 16 = .ok (.iload_n 1, 1) := by decide +kernel
theorem d_Remote_pressCommand_17 : decode b_Remote_pressCommand 17 = .ok (.bipush 15, 2) := by decide +kernel
theorem d_Remote_pressCommand_19 : decode b_Remote_pressCommand 19 = .ok (.if_icmp .ne 21, 3) := by decide +kernel
theorem d_Remote_pressCommand_22 : decode b_Remote_pressCommand 22 = .ok (.aload_n 0, 1) := by decide +kernel
theorem d_Remote_pressCommand_23 : decode b_Remote_pressCommand 23 = .ok (.aload_n 0, 1) := by decide +kernel
theorem d_Remote_pressCommand_24 : decode b_Remote_pressCommand 24 = .ok (.getfield 53, 3) := by decide +kernel
theorem d_Remote_pressCommand_27 : decode b_Remote_pressCommand 27 = .ok (.ifCond .ne 7, 3) := by decide +kernel
theorem d_Remote_pressCommand_30 : decode b_Remote_pressCommand 30 = .ok (.iconst 1, 1) := by decide +kernel
theorem d_Remote_pressCommand_31 : decode b_Remote_pressCommand 31 = .ok (.goto 4, 3) := by decide +kernel
theorem d_Remote_pressCommand_34 : decode b_Remote_pressCommand 34 = .ok (.iconst 0, 1) := by decide +kernel
theorem d_Remote_pressCommand_35 : decode b_Remote_pressCommand 35 = .ok (.putfield 53, 3) := by decide +kernel
theorem d_Remote_pressCommand_38 : decode b_Remote_pressCommand 38 = .ok (.iconst 1, 1) := by decide +kernel
theorem d_Remote_pressCommand_39 : decode b_Remote_pressCommand 39 = .ok (.ireturn, 1) := by decide +kernel
theorem d_Remote_pressCommand_40 : decode b_Remote_pressCommand 40 = .ok (.aload_n 0, 1) := by decide +kernel
theorem d_Remote_pressCommand_41 : decode b_Remote_pressCommand 41 = .ok (.iload_n 1, 1) := by decide +kernel
theorem d_Remote_pressCommand_42 : decode b_Remote_pressCommand 42 = .ok (.bipush 10, 2) := by decide +kernel
theorem d_Remote_pressCommand_44 : decode b_Remote_pressCommand 44 = .ok (.isub, 1) := by decide +kernel
theorem d_Remote_pressCommand_45 : decode b_Remote_pressCommand 45 = .ok (.invokevirtual 56, 3) := by decide +kernel
theorem d_Remote_pressCommand_48 : decode b_Remote_pressCommand 48 = .ok (.ireturn, 1) := by decide +kernel
theorem d_Remote_turnHeld_0 : decode b_Remote_turnHeld 0 = .ok (.aload_n 0, 1) := by decide +kernel
theorem d_Remote_turnHeld_1 : decode b_Remote_turnHeld 1 = .ok (.getfield 12, 3) := by decide +kernel
theorem d_Remote_turnHeld_4 : decode b_Remote_turnHeld 4 = .ok (.getfield 26, 3) := by decide +kernel
theorem d_Remote_turnHeld_7 : decode b_Remote_turnHeld 7 = .ok (.ifCond .eq 13, 3) := by decide +kernel
theorem d_Remote_turnHeld_10 : decode b_Remote_turnHeld 10 = .ok (.aload_n 0, 1) := by decide +kernel
theorem d_Remote_turnHeld_11 : decode b_Remote_turnHeld 11 = .ok (.getfield 12, 3) := by decide +kernel
theorem d_Remote_turnHeld_14 : decode b_Remote_turnHeld 14 = .ok (.iconst 0, 1) := by decide +kernel
theorem d_Remote_turnHeld_15 : decode b_Remote_turnHeld 15 = .ok (.putfield 26, 3) := by decide +kernel
theorem d_Remote_turnHeld_18 : decode b_Remote_turnHeld 18 = .ok (.iconst 1, 1) := by decide +kernel
theorem d_Remote_turnHeld_19 : decode b_Remote_turnHeld 19 = .ok (.ireturn, 1) := by decide +kernel
theorem d_Remote_turnHeld_20 : decode b_Remote_turnHeld 20 = .ok (.aload_n 0, 1) := by decide +kernel
theorem d_Remote_turnHeld_21 : decode b_Remote_turnHeld 21 = .ok (.invokevirtual 60, 3) := by decide +kernel
theorem d_Remote_turnHeld_24 : decode b_Remote_turnHeld 24 = .ok (.astore_n 1, 1) := by decide +kernel
theorem d_Remote_turnHeld_25 : decode b_Remote_turnHeld 25 = .ok (.aload_n 1, 1) := by decide +kernel
theorem d_Remote_turnHeld_26 : decode b_Remote_turnHeld 26 = .ok (.ifnonnull 5, 3) := by decide +kernel
theorem d_Remote_turnHeld_29 : decode b_Remote_turnHeld 29 = .ok (.iconst 0, 1) := by decide +kernel
theorem d_Remote_turnHeld_30 : decode b_Remote_turnHeld 30 = .ok (.ireturn, 1) := by decide +kernel
theorem d_Remote_turnHeld_31 : decode b_Remote_turnHeld 31 = .ok (.aload_n 0, 1) := by decide +kernel
theorem d_Remote_turnHeld_32 : decode b_Remote_turnHeld 32 = .ok (.getfield 12, 3) := by decide +kernel
theorem d_Remote_turnHeld_35 : decode b_Remote_turnHeld 35 = .ok (.aload_n 1, 1) := by decide +kernel
theorem d_Remote_turnHeld_36 : decode b_Remote_turnHeld 36 = .ok (.invokevirtual 68, 3) := by decide +kernel
theorem d_Remote_turnHeld_39 : decode b_Remote_turnHeld 39 = .ok (.iconst 1, 1) := by decide +kernel
theorem d_Remote_turnHeld_40 : decode b_Remote_turnHeld 40 = .ok (.ireturn, 1) := by decide +kernel
theorem d_Remote_pageShown_0 : decode b_Remote_pageShown 0 = .ok (.aload_n 0, 1) := by decide +kernel
theorem d_Remote_pageShown_1 : decode b_Remote_pageShown 1 = .ok (.getfield 12, 3) := by decide +kernel
theorem d_Remote_pageShown_4 : decode b_Remote_pageShown 4 = .ok (.getfield 26, 3) := by decide +kernel
theorem d_Remote_pageShown_7 : decode b_Remote_pageShown 7 = .ok (.ifCond .eq 10, 3) := by decide +kernel
theorem d_Remote_pageShown_10 : decode b_Remote_pageShown 10 = .ok (.aload_n 0, 1) := by decide +kernel
theorem d_Remote_pageShown_11 : decode b_Remote_pageShown 11 = .ok (.getfield 12, 3) := by decide +kernel
theorem d_Remote_pageShown_14 : decode b_Remote_pageShown 14 = .ok (.goto 14, 3) := by decide +kernel
theorem d_Remote_pageShown_17 : decode b_Remote_pageShown 17 = .ok (.aload_n 0, 1) := by decide +kernel
theorem d_Remote_pageShown_18 : decode b_Remote_pageShown 18 = .ok (.getfield 22, 3) := by decide +kernel
theorem d_Remote_pageShown_21 : decode b_Remote_pageShown 21 = .ok (.aload_n 0, 1) := by decide +kernel
theorem d_Remote_pageShown_22 : decode b_Remote_pageShown 22 = .ok (.getfield 18, 3) := by decide +kernel
theorem d_Remote_pageShown_25 : decode b_Remote_pageShown 25 = .ok (.invokevirtual 30, 3) := by decide +kernel
theorem d_Remote_pageShown_28 : decode b_Remote_pageShown 28 = .ok (.areturn, 1) := by decide +kernel
theorem d_Remote_followLink_0 : decode b_Remote_followLink 0 = .ok (.aload_n 0, 1) := by decide +kernel
theorem d_Remote_followLink_1 : decode b_Remote_followLink 1 = .ok (.invokevirtual 60, 3) := by decide +kernel
theorem d_Remote_followLink_4 : decode b_Remote_followLink 4 = .ok (.astore_n 2, 1) := by decide +kernel
theorem d_Remote_followLink_5 : decode b_Remote_followLink 5 = .ok (.aload_n 2, 1) := by decide +kernel
theorem d_Remote_followLink_6 : decode b_Remote_followLink 6 = .ok (.ifnull 12, 3) := by decide +kernel
theorem d_Remote_followLink_9 : decode b_Remote_followLink 9 = .ok (.aload_n 2, 1) := by decide +kernel
theorem d_Remote_followLink_10 : decode b_Remote_followLink 10 = .ok (.iload_n 1, 1) := by decide +kernel
theorem d_Remote_followLink_11 : decode b_Remote_followLink 11 = .ok (.invokevirtual 64, 3) := by decide +kernel
theorem d_Remote_followLink_14 : decode b_Remote_followLink 14 = .ok (.iconst (-1), 1) := by decide +kernel
theorem d_Remote_followLink_15 : decode b_Remote_followLink 15 = .ok (.if_icmp .ne 5, 3) := by decide +kernel
theorem d_Remote_followLink_18 : decode b_Remote_followLink 18 = .ok (.iconst 0, 1) := by decide +kernel
theorem d_Remote_followLink_19 : decode b_Remote_followLink 19 = .ok (.ireturn, 1) := by decide +kernel
theorem d_Remote_followLink_20 : decode b_Remote_followLink 20 = .ok (.aload_n 0, 1) := by decide +kernel
theorem d_Remote_followLink_21 : decode b_Remote_followLink 21 = .ok (.aload_n 2, 1) := by decide +kernel
theorem d_Remote_followLink_22 : decode b_Remote_followLink 22 = .ok (.iload_n 1, 1) := by decide +kernel
theorem d_Remote_followLink_23 : decode b_Remote_followLink 23 = .ok (.invokevirtual 64, 3) := by decide +kernel
theorem d_Remote_followLink_26 : decode b_Remote_followLink 26 = .ok (.invokevirtual 45, 3) := by decide +kernel
theorem d_Remote_followLink_29 : decode b_Remote_followLink 29 = .ok (.iconst 1, 1) := by decide +kernel
theorem d_Remote_followLink_30 : decode b_Remote_followLink 30 = .ok (.ireturn, 1) := by decide +kernel
theorem d_Page_link_0 : decode b_Page_link 0 = .ok (.iload_n 1, 1) := by decide +kernel
theorem d_Page_link_1 : decode b_Page_link 1 = .ok (.ifCond .lt 8, 3) := by decide +kernel
theorem d_Page_link_4 : decode b_Page_link 4 = .ok (.iload_n 1, 1) := by decide +kernel
theorem d_Page_link_5 : decode b_Page_link 5 = .ok (.iconst 4, 1) := by decide +kernel
theorem d_Page_link_6 : decode b_Page_link 6 = .ok (.if_icmp .lt 7, 3) := by decide +kernel
theorem d_Page_link_9 : decode b_Page_link 9 = .ok (.iconst (-1), 1) := by decide +kernel
theorem d_Page_link_10 : decode b_Page_link 10 = .ok (.goto 9, 3) := by decide +kernel
theorem d_Page_link_13 : decode b_Page_link 13 = .ok (.aload_n 0, 1) := by decide +kernel
theorem d_Page_link_14 : decode b_Page_link 14 = .ok (.getfield 18, 3) := by decide +kernel
theorem d_Page_link_17 : decode b_Page_link 17 = .ok (.iload_n 1, 1) := by decide +kernel
theorem d_Page_link_18 : decode b_Page_link 18 = .ok (.iaload, 1) := by decide +kernel
theorem d_Page_link_19 : decode b_Page_link 19 = .ok (.ireturn, 1) := by decide +kernel
theorem d_Recv_tick_0 : decode b_Recv_tick 0 = .ok (.aload_n 0, 1) := by decide +kernel
theorem d_Recv_tick_1 : decode b_Recv_tick 1 = .ok (.getfield 66, 3) := by decide +kernel
theorem d_Recv_tick_4 : decode b_Recv_tick 4 = .ok (.aload_n 0, 1) := by decide +kernel
theorem d_Recv_tick_5 : decode b_Recv_tick 5 = .ok (.getfield 66, 3) := by decide +kernel
theorem d_Recv_tick_8 : decode b_Recv_tick 8 = .ok (.getfield 96, 3) := by decide +kernel
theorem d_Recv_tick_11 : decode b_Recv_tick 11 = .ok (.ifCond .ne 7, 3) := by decide +kernel
theorem d_Recv_tick_14 : decode b_Recv_tick 14 = .ok (.iconst 1, 1) := by decide +kernel
theorem d_Recv_tick_15 : decode b_Recv_tick 15 = .ok (.goto 4, 3) := by decide +kernel
theorem d_Recv_tick_18 : decode b_Recv_tick 18 = .ok (.iconst 0, 1) := by decide +kernel
theorem d_Recv_tick_19 : decode b_Recv_tick 19 = .ok (.putfield 96, 3) := by decide +kernel
theorem d_Recv_tick_22 : decode b_Recv_tick 22 = .ok (.aload_n 0, 1) := by decide +kernel
theorem d_Recv_tick_23 : decode b_Recv_tick 23 = .ok (.getfield 66, 3) := by decide +kernel
theorem d_Recv_tick_26 : decode b_Recv_tick 26 = .ok (.getfield 96, 3) := by decide +kernel
theorem d_Recv_tick_29 : decode b_Recv_tick 29 = .ok (.ireturn, 1) := by decide +kernel
theorem d_Recv_shown_0 : decode b_Recv_shown 0 = .ok (.aload_n 0, 1) := by decide +kernel
theorem d_Recv_shown_1 : decode b_Recv_shown 1 = .ok (.getfield 45, 3) := by decide +kernel
theorem d_Recv_shown_4 : decode b_Recv_shown 4 = .ok (.invokevirtual 100, 3) := by decide +kernel
theorem d_Recv_shown_7 : decode b_Recv_shown 7 = .ok (.astore_n 1, 1) := by decide +kernel
theorem d_Recv_shown_8 : decode b_Recv_shown 8 = .ok (.aload_n 1, 1) := by decide +kernel
theorem d_Recv_shown_9 : decode b_Recv_shown 9 = .ok (.ifnonnull 7, 3) := by decide +kernel
theorem d_Recv_shown_12 : decode b_Recv_shown 12 = .ok (.iconst (-1), 1) := by decide +kernel
theorem d_Recv_shown_13 : decode b_Recv_shown 13 = .ok (.goto 7, 3) := by decide +kernel
theorem d_Recv_shown_16 : decode b_Recv_shown 16 = .ok (.aload_n 1, 1) := by decide +kernel
theorem d_Recv_shown_17 : decode b_Recv_shown 17 = .ok (.getfield 104, 3) := by decide +kernel
theorem d_Recv_shown_20 : decode b_Recv_shown 20 = .ok (.ireturn, 1) := by decide +kernel
theorem d_Recv_viewer_0 : decode b_Recv_viewer 0 = .ok (.iload_n 1, 1) := by decide +kernel
theorem d_Recv_viewer_1 : decode b_Recv_viewer 1 = .ok (.tableswitch 82 0 3 #[31, 39, 47, 66], 31) := by decide +kernel
theorem d_Recv_viewer_32 : decode b_Recv_viewer 32 = .ok (.aload_n 0, 1) := by decide +kernel
theorem d_Recv_viewer_33 : decode b_Recv_viewer 33 = .ok (.getfield 45, 3) := by decide +kernel
theorem d_Recv_viewer_36 : decode b_Recv_viewer 36 = .ok (.getfield 109, 3) := by decide +kernel
theorem d_Recv_viewer_39 : decode b_Recv_viewer 39 = .ok (.ireturn, 1) := by decide +kernel
theorem d_Recv_viewer_40 : decode b_Recv_viewer 40 = .ok (.aload_n 0, 1) := by decide +kernel
theorem d_Recv_viewer_41 : decode b_Recv_viewer 41 = .ok (.getfield 45, 3) := by decide +kernel
theorem d_Recv_viewer_44 : decode b_Recv_viewer 44 = .ok (.getfield 112, 3) := by decide +kernel
theorem d_Recv_viewer_47 : decode b_Recv_viewer 47 = .ok (.ireturn, 1) := by decide +kernel
theorem d_Recv_viewer_48 : decode b_Recv_viewer 48 = .ok (.aload_n 0, 1) := by decide +kernel
theorem d_Recv_viewer_49 : decode b_Recv_viewer 49 = .ok (.getfield 45, 3) := by decide +kernel
theorem d_Recv_viewer_52 : decode b_Recv_viewer 52 = .ok (.getfield 115, 3) := by decide +kernel
theorem d_Recv_viewer_55 : decode b_Recv_viewer 55 = .ok (.getfield 119, 3) := by decide +kernel
theorem d_Recv_viewer_58 : decode b_Recv_viewer 58 = .ok (.ifCond .eq 7, 3) := by decide +kernel
theorem d_Recv_viewer_61 : decode b_Recv_viewer 61 = .ok (.iconst 1, 1) := by decide +kernel
theorem d_Recv_viewer_62 : decode b_Recv_viewer 62 = .ok (.goto 4, 3) := by decide +kernel
theorem d_Recv_viewer_65 : decode b_Recv_viewer 65 = .ok (.iconst 0, 1) := by decide +kernel
theorem d_Recv_viewer_66 : decode b_Recv_viewer 66 = .ok (.ireturn, 1) := by decide +kernel
theorem d_Recv_viewer_67 : decode b_Recv_viewer 67 = .ok (.aload_n 0, 1) := by decide +kernel
theorem d_Recv_viewer_68 : decode b_Recv_viewer 68 = .ok (.getfield 45, 3) := by decide +kernel
theorem d_Recv_viewer_71 : decode b_Recv_viewer 71 = .ok (.getfield 122, 3) := by decide +kernel
theorem d_Recv_viewer_74 : decode b_Recv_viewer 74 = .ok (.ifCond .eq 7, 3) := by decide +kernel
theorem d_Recv_viewer_77 : decode b_Recv_viewer 77 = .ok (.iconst 1, 1) := by decide +kernel
theorem d_Recv_viewer_78 : decode b_Recv_viewer 78 = .ok (.goto 4, 3) := by decide +kernel
theorem d_Recv_viewer_81 : decode b_Recv_viewer 81 = .ok (.iconst 0, 1) := by decide +kernel
theorem d_Recv_viewer_82 : decode b_Recv_viewer 82 = .ok (.ireturn, 1) := by decide +kernel
theorem d_Recv_viewer_83 : decode b_Recv_viewer 83 = .ok (.iconst (-1), 1) := by decide +kernel
theorem d_Recv_viewer_84 : decode b_Recv_viewer 84 = .ok (.ireturn, 1) := by decide +kernel
theorem d_Recv_kept_0 : decode b_Recv_kept 0 = .ok (.aload_n 0, 1) := by decide +kernel
theorem d_Recv_kept_1 : decode b_Recv_kept 1 = .ok (.getfield 36, 3) := by decide +kernel
theorem d_Recv_kept_4 : decode b_Recv_kept 4 = .ok (.iload_n 1, 1) := by decide +kernel
theorem d_Recv_kept_5 : decode b_Recv_kept 5 = .ok (.invokevirtual 125, 3) := by decide +kernel
theorem d_Recv_kept_8 : decode b_Recv_kept 8 = .ok (.astore_n 3, 1) := by decide +kernel
theorem d_Recv_kept_9 : decode b_Recv_kept 9 = .ok (.aload_n 3, 1) := by decide +kernel
theorem d_Recv_kept_10 : decode b_Recv_kept 10 = .ok (.ifnonnull 7, 3) := by decide +kernel
theorem d_Recv_kept_13 : decode b_Recv_kept 13 = .ok (.iconst (-1), 1) := by decide +kernel
theorem d_Recv_kept_14 : decode b_Recv_kept 14 = .ok (.goto 8, 3) := by decide +kernel
theorem d_Recv_kept_17 : decode b_Recv_kept 17 = .ok (.aload_n 3, 1) := by decide +kernel
theorem d_Recv_kept_18 : decode b_Recv_kept 18 = .ok (.iload_n 2, 1) := by decide +kernel
theorem d_Recv_kept_19 : decode b_Recv_kept 19 = .ok (.invokevirtual 129, 3) := by decide +kernel
theorem d_Recv_kept_22 : decode b_Recv_kept 22 = .ok (.ireturn, 1) := by decide +kernel
theorem d_Shelf_pageIn_0 : decode b_Shelf_pageIn 0 = .ok (.iload_n 1, 1) := by decide +kernel
theorem d_Shelf_pageIn_1 : decode b_Shelf_pageIn 1 = .ok (.ifCond .lt 24, 3) := by decide +kernel
theorem d_Shelf_pageIn_4 : decode b_Shelf_pageIn 4 = .ok (.iload_n 1, 1) := by decide +kernel
theorem d_Shelf_pageIn_5 : decode b_Shelf_pageIn 5 = .ok (.aload_n 0, 1) := by decide +kernel
theorem d_Shelf_pageIn_6 : decode b_Shelf_pageIn 6 = .ok (.getfield 17, 3) := by decide +kernel
theorem d_Shelf_pageIn_9 : decode b_Shelf_pageIn 9 = .ok (.arraylength, 1) := by decide +kernel
theorem d_Shelf_pageIn_10 : decode b_Shelf_pageIn 10 = .ok (.if_icmp .ge 15, 3) := by decide +kernel
theorem d_Shelf_pageIn_13 : decode b_Shelf_pageIn 13 = .ok (.aload_n 0, 1) := by decide +kernel
theorem d_Shelf_pageIn_14 : decode b_Shelf_pageIn 14 = .ok (.getfield 17, 3) := by decide +kernel
theorem d_Shelf_pageIn_17 : decode b_Shelf_pageIn 17 = .ok (.iload_n 1, 1) := by decide +kernel
theorem d_Shelf_pageIn_18 : decode b_Shelf_pageIn 18 = .ok (.aaload, 1) := by decide +kernel
theorem d_Shelf_pageIn_19 : decode b_Shelf_pageIn 19 = .ok (.getfield 22, 3) := by decide +kernel
theorem d_Shelf_pageIn_22 : decode b_Shelf_pageIn 22 = .ok (.ifCond .ne 7, 3) := by decide +kernel
theorem d_Shelf_pageIn_25 : decode b_Shelf_pageIn 25 = .ok (.aconst_null, 1) := by decide +kernel
theorem d_Shelf_pageIn_26 : decode b_Shelf_pageIn 26 = .ok (.goto 9, 3) := by decide +kernel
theorem d_Shelf_pageIn_29 : decode b_Shelf_pageIn 29 = .ok (.aload_n 0, 1) := by decide +kernel
theorem d_Shelf_pageIn_30 : decode b_Shelf_pageIn 30 = .ok (.getfield 17, 3) := by decide +kernel
theorem d_Shelf_pageIn_33 : decode b_Shelf_pageIn 33 = .ok (.iload_n 1, 1) := by decide +kernel
theorem d_Shelf_pageIn_34 : decode b_Shelf_pageIn 34 = .ok (.aaload, 1) := by decide +kernel
theorem d_Shelf_pageIn_35 : decode b_Shelf_pageIn 35 = .ok (.areturn, 1) := by decide +kernel
theorem d_Page_tell_0 : decode b_Page_tell 0 = .ok (.iload_n 1, 1) := by decide +kernel
theorem d_Page_tell_1 : decode b_Page_tell 1 = .ok (.tableswitch 75 0 7 #[47, 52, 57, 62, 67, 67, 67, 67], 47) := by decide +kernel
theorem d_Page_tell_48 : decode b_Page_tell 48 = .ok (.aload_n 0, 1) := by decide +kernel
theorem d_Page_tell_49 : decode b_Page_tell 49 = .ok (.getfield 25, 3) := by decide +kernel
theorem d_Page_tell_52 : decode b_Page_tell 52 = .ok (.ireturn, 1) := by decide +kernel
theorem d_Page_tell_53 : decode b_Page_tell 53 = .ok (.aload_n 0, 1) := by decide +kernel
theorem d_Page_tell_54 : decode b_Page_tell 54 = .ok (.getfield 35, 3) := by decide +kernel
theorem d_Page_tell_57 : decode b_Page_tell 57 = .ok (.ireturn, 1) := by decide +kernel
theorem d_Page_tell_58 : decode b_Page_tell 58 = .ok (.aload_n 0, 1) := by decide +kernel
theorem d_Page_tell_59 : decode b_Page_tell 59 = .ok (.getfield 38, 3) := by decide +kernel
theorem d_Page_tell_62 : decode b_Page_tell 62 = .ok (.ireturn, 1) := by decide +kernel
theorem d_Page_tell_63 : decode b_Page_tell 63 = .ok (.aload_n 0, 1) := by decide +kernel
theorem d_Page_tell_64 : decode b_Page_tell 64 = .ok (.getfield 41, 3) := by decide +kernel
theorem d_Page_tell_67 : decode b_Page_tell 67 = .ok (.ireturn, 1) := by decide +kernel
theorem d_Page_tell_68 : decode b_Page_tell 68 = .ok (.aload_n 0, 1) := by decide +kernel
theorem d_Page_tell_69 : decode b_Page_tell 69 = .ok (.iload_n 1, 1) := by decide +kernel
theorem d_Page_tell_70 : decode b_Page_tell 70 = .ok (.iconst 4, 1) := by decide +kernel
theorem d_Page_tell_71 : decode b_Page_tell 71 = .ok (.isub, 1) := by decide +kernel
theorem d_Page_tell_72 : decode b_Page_tell 72 = .ok (.invokevirtual 54, 3) := by decide +kernel
theorem d_Page_tell_75 : decode b_Page_tell 75 = .ok (.ireturn, 1) := by decide +kernel
theorem d_Page_tell_76 : decode b_Page_tell 76 = .ok (.iconst (-1), 1) := by decide +kernel
theorem d_Page_tell_77 : decode b_Page_tell 77 = .ok (.ireturn, 1) := by decide +kernel
theorem d_Recv_count_0 : decode b_Recv_count 0 = .ok (.iload_n 1, 1) := by decide +kernel
theorem d_Recv_count_1 : decode b_Recv_count 1 = .ok (.ifCond .lt 9, 3) := by decide +kernel
theorem d_Recv_count_4 : decode b_Recv_count 4 = .ok (.iload_n 1, 1) := by decide +kernel
theorem d_Recv_count_5 : decode b_Recv_count 5 = .ok (.bipush 6, 2) := by decide +kernel
theorem d_Recv_count_7 : decode b_Recv_count 7 = .ok (.if_icmp .lt 7, 3) := by decide +kernel
theorem d_Recv_count_10 : decode b_Recv_count 10 = .ok (.iconst (-1), 1) := by decide +kernel
theorem d_Recv_count_11 : decode b_Recv_count 11 = .ok (.goto 9, 3) := by decide +kernel
theorem d_Recv_count_14 : decode b_Recv_count 14 = .ok (.aload_n 0, 1) := by decide +kernel
theorem d_Recv_count_15 : decode b_Recv_count 15 = .ok (.getfield 9, 3) := by decide +kernel
theorem d_Recv_count_18 : decode b_Recv_count 18 = .ok (.iload_n 1, 1) := by decide +kernel
theorem d_Recv_count_19 : decode b_Recv_count 19 = .ok (.iaload, 1) := by decide +kernel
theorem d_Recv_count_20 : decode b_Recv_count 20 = .ok (.ireturn, 1) := by decide +kernel
theorem d_Recv_look_0 : decode b_Recv_look 0 = .ok (.iload_n 1, 1) := by decide +kernel
theorem d_Recv_look_1 : decode b_Recv_look 1 = .ok (.iload_n 2, 1) := by decide +kernel
theorem d_Recv_look_2 : decode b_Recv_look 2 = .ok (.invokestatic 133, 3) := by decide +kernel
theorem d_Recv_look_5 : decode b_Recv_look 5 = .ok (.ifCond .ne 5, 3) := by decide +kernel
theorem d_Recv_look_8 : decode b_Recv_look 8 = .ok (.iconst (-1), 1) := by decide +kernel
theorem d_Recv_look_9 : decode b_Recv_look 9 = .ok (.ireturn, 1) := by decide +kernel
theorem d_Recv_look_10 : decode b_Recv_look 10 = .ok (.aload_n 0, 1) := by decide +kernel
theorem d_Recv_look_11 : decode b_Recv_look 11 = .ok (.getfield 66, 3) := by decide +kernel
theorem d_Recv_look_14 : decode b_Recv_look 14 = .ok (.iload_n 1, 1) := by decide +kernel
theorem d_Recv_look_15 : decode b_Recv_look 15 = .ok (.iload_n 2, 1) := by decide +kernel
theorem d_Recv_look_16 : decode b_Recv_look 16 = .ok (.invokevirtual 137, 3) := by decide +kernel
theorem d_Recv_look_19 : decode b_Recv_look 19 = .ok (.iload_n 3, 1) := by decide +kernel
theorem d_Recv_look_20 : decode b_Recv_look 20 = .ok (.tableswitch 64 0 3 #[32, 40, 48, 56], 32) := by decide +kernel
theorem d_Recv_look_52 : decode b_Recv_look 52 = .ok (.aload_n 0, 1) := by decide +kernel
theorem d_Recv_look_53 : decode b_Recv_look 53 = .ok (.getfield 66, 3) := by decide +kernel
theorem d_Recv_look_56 : decode b_Recv_look 56 = .ok (.getfield 141, 3) := by decide +kernel
theorem d_Recv_look_59 : decode b_Recv_look 59 = .ok (.ireturn, 1) := by decide +kernel
theorem d_Recv_look_60 : decode b_Recv_look 60 = .ok (.aload_n 0, 1) := by decide +kernel
theorem d_Recv_look_61 : decode b_Recv_look 61 = .ok (.getfield 66, 3) := by decide +kernel
theorem d_Recv_look_64 : decode b_Recv_look 64 = .ok (.getfield 144, 3) := by decide +kernel
theorem d_Recv_look_67 : decode b_Recv_look 67 = .ok (.ireturn, 1) := by decide +kernel
theorem d_Recv_look_68 : decode b_Recv_look 68 = .ok (.aload_n 0, 1) := by decide +kernel
theorem d_Recv_look_69 : decode b_Recv_look 69 = .ok (.getfield 66, 3) := by decide +kernel
theorem d_Recv_look_72 : decode b_Recv_look 72 = .ok (.getfield 147, 3) := by decide +kernel
theorem d_Recv_look_75 : decode b_Recv_look 75 = .ok (.ireturn, 1) := by decide +kernel
theorem d_Recv_look_76 : decode b_Recv_look 76 = .ok (.aload_n 0, 1) := by decide +kernel
theorem d_Recv_look_77 : decode b_Recv_look 77 = .ok (.getfield 66, 3) := by decide +kernel
theorem d_Recv_look_80 : decode b_Recv_look 80 = .ok (.getfield 150, 3) := by decide +kernel
theorem d_Recv_look_83 : decode b_Recv_look 83 = .ok (.ireturn, 1) := by decide +kernel
theorem d_Recv_look_84 : decode b_Recv_look 84 = .ok (.iconst (-1), 1) := by decide +kernel
theorem d_Recv_look_85 : decode b_Recv_look 85 = .ok (.ireturn, 1) := by decide +kernel
theorem d_Screen_see_0 : decode b_Screen_see 0 = .ok (.aload_n 0, 1) := by decide +kernel
theorem d_Screen_see_1 : decode b_Screen_see 1 = .ok (.getfield 22, 3) := by decide +kernel
theorem d_Screen_see_4 : decode b_Screen_see 4 = .ok (.invokevirtual 30, 3) := by decide +kernel
theorem d_Screen_see_7 : decode b_Screen_see 7 = .ok (.astore_n 3, 1) := by decide +kernel
theorem d_Screen_see_8 : decode b_Screen_see 8 = .ok (.aload_n 0, 1) := by decide +kernel
theorem d_Screen_see_9 : decode b_Screen_see 9 = .ok (.aload_n 3, 1) := by decide +kernel
theorem d_Screen_see_10 : decode b_Screen_see 10 = .ok (.iload_n 1, 1) := by decide +kernel
theorem d_Screen_see_11 : decode b_Screen_see 11 = .ok (.invokevirtual 36, 3) := by decide +kernel
theorem d_Screen_see_14 : decode b_Screen_see 14 = .ok (.istore 4, 2) := by decide +kernel
theorem d_Screen_see_16 : decode b_Screen_see 16 = .ok (.iload 4, 2) := by decide +kernel
theorem d_Screen_see_18 : decode b_Screen_see 18 = .ok (.ifCond .eq 7, 3) := by decide +kernel
theorem d_Screen_see_21 : decode b_Screen_see 21 = .ok (.iload_n 1, 1) := by decide +kernel
theorem d_Screen_see_22 : decode b_Screen_see 22 = .ok (.goto 6, 3) := by decide +kernel
theorem d_Screen_see_25 : decode b_Screen_see 25 = .ok (.iload_n 1, 1) := by decide +kernel
theorem d_Screen_see_26 : decode b_Screen_see 26 = .ok (.iconst 1, 1) := by decide +kernel
theorem d_Screen_see_27 : decode b_Screen_see 27 = .ok (.isub, 1) := by decide +kernel
theorem d_Screen_see_28 : decode b_Screen_see 28 = .ok (.istore 5, 2) := by decide +kernel
theorem d_Screen_see_30 : decode b_Screen_see 30 = .ok (.aload_n 0, 1) := by decide +kernel
theorem d_Screen_see_31 : decode b_Screen_see 31 = .ok (.getfield 12, 3) := by decide +kernel
theorem d_Screen_see_34 : decode b_Screen_see 34 = .ok (.invokevirtual 40, 3) := by decide +kernel
theorem d_Screen_see_37 : decode b_Screen_see 37 = .ok (.iconst 0, 1) := by decide +kernel
theorem d_Screen_see_38 : decode b_Screen_see 38 = .ok (.istore 6, 2) := by decide +kernel
theorem d_Screen_see_40 : decode b_Screen_see 40 = .ok (.iload 6, 2) := by decide +kernel
theorem d_Screen_see_42 : decode b_Screen_see 42 = .ok (.iload_n 2, 1) := by decide +kernel
theorem d_Screen_see_43 : decode b_Screen_see 43 = .ok (.if_icmp .gt 18, 3) := by decide +kernel
theorem d_Screen_see_46 : decode b_Screen_see 46 = .ok (.aload_n 0, 1) := by decide +kernel
theorem d_Screen_see_47 : decode b_Screen_see 47 = .ok (.aload_n 3, 1) := by decide +kernel
theorem d_Screen_see_48 : decode b_Screen_see 48 = .ok (.iload 5, 2) := by decide +kernel
theorem d_Screen_see_50 : decode b_Screen_see 50 = .ok (.iload 6, 2) := by decide +kernel
theorem d_Screen_see_52 : decode b_Screen_see 52 = .ok (.invokevirtual 43, 3) := by decide +kernel
theorem d_Screen_see_55 : decode b_Screen_see 55 = .ok (.iinc 6 1, 3) := by decide +kernel
theorem d_Screen_see_58 : decode b_Screen_see 58 = .ok (.goto (-18), 3) := by decide +kernel
theorem d_Screen_see_61 : decode b_Screen_see 61 = .ok (.iload 4, 2) := by decide +kernel
theorem d_Screen_see_63 : decode b_Screen_see 63 = .ok (.ifCond .ne 7, 3) := by decide +kernel
theorem d_Screen_see_66 : decode b_Screen_see 66 = .ok (.aload_n 0, 1) := by decide +kernel
theorem d_Screen_see_67 : decode b_Screen_see 67 = .ok (.invokevirtual 47, 3) := by decide +kernel
theorem d_Screen_see_70 : decode b_Screen_see 70 = .ok (.return_, 1) := by decide +kernel
theorem d_Screen_isOwn_0 : decode b_Screen_isOwn 0 = .ok (.iconst 1, 1) := by decide +kernel
theorem d_Screen_isOwn_1 : decode b_Screen_isOwn 1 = .ok (.istore_n 3, 1) := by decide +kernel
theorem d_Screen_isOwn_2 : decode b_Screen_isOwn 2 = .ok (.iconst 2, 1) := by decide +kernel
theorem d_Screen_isOwn_3 : decode b_Screen_isOwn 3 = .ok (.istore 4, 2) := by decide +kernel
theorem d_Screen_isOwn_5 : decode b_Screen_isOwn 5 = .ok (.iload 4, 2) := by decide +kernel
theorem d_Screen_isOwn_7 : decode b_Screen_isOwn 7 = .ok (.iload_n 2, 1) := by decide +kernel
theorem d_Screen_isOwn_8 : decode b_Screen_isOwn 8 = .ok (.if_icmp .gt 31, 3) := by decide +kernel
theorem d_Screen_isOwn_11 : decode b_Screen_isOwn 11 = .ok (.iload_n 3, 1) := by decide +kernel
theorem d_Screen_isOwn_12 : decode b_Screen_isOwn 12 = .ok (.ifCond .eq 15, 3) := by decide +kernel
theorem d_Screen_isOwn_15 : decode b_Screen_isOwn 15 = .ok (.aload_n 0, 1) := by decide +kernel
theorem d_Screen_isOwn_16 : decode b_Screen_isOwn 16 = .ok (.aload_n 1, 1) := by decide +kernel
theorem d_Screen_isOwn_17 : decode b_Screen_isOwn 17 = .ok (.iload 4, 2) := by decide +kernel
theorem d_Screen_isOwn_19 : decode b_Screen_isOwn 19 = .ok (.iconst 1, 1) := by decide +kernel
theorem d_Screen_isOwn_20 : decode b_Screen_isOwn 20 = .ok (.isub, 1) := by decide +kernel
theorem d_Screen_isOwn_21 : decode b_Screen_isOwn 21 = .ok (.invokevirtual 50, 3) := by decide +kernel
theorem d_Screen_isOwn_24 : decode b_Screen_isOwn 24 = .ok (.ifCond .ne 7, 3) := by decide +kernel
theorem d_Screen_isOwn_27 : decode b_Screen_isOwn 27 = .ok (.iconst 1, 1) := by decide +kernel
theorem d_Screen_isOwn_28 : decode b_Screen_isOwn 28 = .ok (.goto 4, 3) := by decide +kernel
theorem d_Screen_isOwn_31 : decode b_Screen_isOwn 31 = .ok (.iconst 0, 1) := by decide +kernel
theorem d_Screen_isOwn_32 : decode b_Screen_isOwn 32 = .ok (.istore_n 3, 1) := by decide +kernel
theorem d_Screen_isOwn_33 : decode b_Screen_isOwn 33 = .ok (.iinc 4 1, 3) := by decide +kernel
theorem d_Screen_isOwn_36 : decode b_Screen_isOwn 36 = .ok (.goto (-31), 3) := by decide +kernel
theorem d_Screen_isOwn_39 : decode b_Screen_isOwn 39 = .ok (.iload_n 3, 1) := by decide +kernel
theorem d_Screen_isOwn_40 : decode b_Screen_isOwn 40 = .ok (.ireturn, 1) := by decide +kernel
theorem d_Screen_hasDouble_0 : decode b_Screen_hasDouble 0 = .ok (.iconst 0, 1) := by decide +kernel
theorem d_Screen_hasDouble_1 : decode b_Screen_hasDouble 1 = .ok (.istore_n 3, 1) := by decide +kernel
theorem d_Screen_hasDouble_2 : decode b_Screen_hasDouble 2 = .ok (.iconst 0, 1) := by decide +kernel
theorem d_Screen_hasDouble_3 : decode b_Screen_hasDouble 3 = .ok (.istore 4, 2) := by decide +kernel
theorem d_Screen_hasDouble_5 : decode b_Screen_hasDouble 5 = .ok (.iload 4, 2) := by decide +kernel
theorem d_Screen_hasDouble_7 : decode b_Screen_hasDouble 7 = .ok (.bipush 20, 2) := by decide +kernel
theorem d_Screen_hasDouble_9 : decode b_Screen_hasDouble 9 = .ok (.if_icmp .ge 55, 3) := by decide +kernel
theorem d_Screen_hasDouble_12 : decode b_Screen_hasDouble 12 = .ok (.aload_n 0, 1) := by decide +kernel
theorem d_Screen_hasDouble_13 : decode b_Screen_hasDouble 13 = .ok (.aload_n 1, 1) := by decide +kernel
theorem d_Screen_hasDouble_14 : decode b_Screen_hasDouble 14 = .ok (.iload_n 2, 1) := by decide +kernel
theorem d_Screen_hasDouble_15 : decode b_Screen_hasDouble 15 = .ok (.iload 4, 2) := by decide +kernel
theorem d_Screen_hasDouble_17 : decode b_Screen_hasDouble 17 = .ok (.invokevirtual 53, 3) := by decide +kernel
theorem d_Screen_hasDouble_20 : decode b_Screen_hasDouble 20 = .ok (.istore 5, 2) := by decide +kernel
theorem d_Screen_hasDouble_22 : decode b_Screen_hasDouble 22 = .ok (.iload_n 3, 1) := by decide +kernel
theorem d_Screen_hasDouble_23 : decode b_Screen_hasDouble 23 = .ok (.ifCond .eq 14, 3) := by decide +kernel
theorem d_Screen_hasDouble_26 : decode b_Screen_hasDouble 26 = .ok (.iload 5, 2) := by decide +kernel
theorem d_Screen_hasDouble_28 : decode b_Screen_hasDouble 28 = .ok (.bipush 12, 2) := by decide +kernel
theorem d_Screen_hasDouble_30 : decode b_Screen_hasDouble 30 = .ok (.if_icmp .eq 7, 3) := by decide +kernel
theorem d_Screen_hasDouble_33 : decode b_Screen_hasDouble 33 = .ok (.iconst 1, 1) := by decide +kernel
theorem d_Screen_hasDouble_34 : decode b_Screen_hasDouble 34 = .ok (.goto 4, 3) := by decide +kernel
theorem d_Screen_hasDouble_37 : decode b_Screen_hasDouble 37 = .ok (.iconst 0, 1) := by decide +kernel
theorem d_Screen_hasDouble_38 : decode b_Screen_hasDouble 38 = .ok (.istore_n 3, 1) := by decide +kernel
theorem d_Screen_hasDouble_39 : decode b_Screen_hasDouble 39 = .ok (.iload_n 3, 1) := by decide +kernel
theorem d_Screen_hasDouble_40 : decode b_Screen_hasDouble 40 = .ok (.ifCond .eq 5, 3) := by decide +kernel
theorem d_Screen_hasDouble_43 : decode b_Screen_hasDouble 43 = .ok (.iconst 1, 1) := by decide +kernel
theorem d_Screen_hasDouble_44 : decode b_Screen_hasDouble 44 = .ok (.ireturn, 1) := by decide +kernel
theorem d_Screen_hasDouble_45 : decode b_Screen_hasDouble 45 = .ok (.iload 5, 2) := by decide +kernel
theorem d_Screen_hasDouble_47 : decode b_Screen_hasDouble 47 = .ok (.bipush 13, 2) := by decide +kernel
theorem d_Screen_hasDouble_49 : decode b_Screen_hasDouble 49 = .ok (.if_icmp .ne 7, 3) := by decide +kernel
theorem d_Screen_hasDouble_52 : decode b_Screen_hasDouble 52 = .ok (.iconst 1, 1) := by decide +kernel
theorem d_Screen_hasDouble_53 : decode b_Screen_hasDouble 53 = .ok (.goto 4, 3) := by decide +kernel
theorem d_Screen_hasDouble_56 : decode b_Screen_hasDouble 56 = .ok (.iconst 0, 1) := by decide +kernel
theorem d_Screen_hasDouble_57 : decode b_Screen_hasDouble 57 = .ok (.istore_n 3, 1) := by decide +kernel
theorem d_Screen_hasDouble_58 : decode b_Screen_hasDouble 58 = .ok (.iinc 4 1, 3) := by decide +kernel
theorem d_Screen_hasDouble_61 : decode b_Screen_hasDouble 61 = .ok (.goto (-56), 3) := by decide +kernel
theorem d_Screen_hasDouble_64 : decode b_Screen_hasDouble 64 = .ok (.iconst 0, 1) := by decide +kernel
theorem d_Screen_hasDouble_65 : decode b_Screen_hasDouble 65 = .ok (.ireturn, 1) := by decide +kernel
theorem d_Screen_letterAt_0 : decode b_Screen_letterAt 0 = .ok (.iload_n 2, 1) := by decide +kernel
theorem d_Screen_letterAt_1 : decode b_Screen_letterAt 1 = .ok (.ifCond .ne 15, 3) := by decide +kernel
theorem d_Screen_letterAt_4 : decode b_Screen_letterAt 4 = .ok (.iload_n 3, 1) := by decide +kernel
theorem d_Screen_letterAt_5 : decode b_Screen_letterAt 5 = .ok (.bipush 8, 2) := by decide +kernel
theorem d_Screen_letterAt_7 : decode b_Screen_letterAt 7 = .ok (.if_icmp .ge 9, 3) := by decide +kernel
theorem d_Screen_letterAt_10 : decode b_Screen_letterAt 10 = .ok (.aload_n 0, 1) := by decide +kernel
theorem d_Screen_letterAt_11 : decode b_Screen_letterAt 11 = .ok (.iload_n 3, 1) := by decide +kernel
theorem d_Screen_letterAt_12 : decode b_Screen_letterAt 12 = .ok (.invokevirtual 57, 3) := by decide +kernel
theorem d_Screen_letterAt_15 : decode b_Screen_letterAt 15 = .ok (.ireturn, 1) := by decide +kernel
theorem d_Screen_letterAt_16 : decode b_Screen_letterAt 16 = .ok (.aload_n 1, 1) := by decide +kernel
theorem d_Screen_letterAt_17 : decode b_Screen_letterAt 17 = .ok (.ifnull 10, 3) := by decide +kernel
theorem d_Screen_letterAt_20 : decode b_Screen_letterAt 20 = .ok (.aload_n 1, 1) := by decide +kernel
theorem d_Screen_letterAt_21 : decode b_Screen_letterAt 21 = .ok (.iload_n 2, 1) := by decide +kernel
theorem d_Screen_letterAt_22 : decode b_Screen_letterAt 22 = .ok (.iload_n 3, 1) := by decide +kernel
theorem d_Screen_letterAt_23 : decode b_Screen_letterAt 23 = .ok (.invokevirtual 61, 3) := by decide +kernel
theorem d_Screen_letterAt_26 : decode b_Screen_letterAt 26 = .ok (.ireturn, 1) := by decide +kernel
theorem d_Screen_letterAt_27 : decode b_Screen_letterAt 27 = .ok (.iload_n 2, 1) := by decide +kernel
theorem d_Screen_letterAt_28 : decode b_Screen_letterAt 28 = .ok (.ifCond .ne 18, 3) := by decide +kernel
theorem d_Screen_letterAt_31 : decode b_Screen_letterAt 31 = .ok (.iload_n 3, 1) := by decide +kernel
theorem d_Screen_letterAt_32 : decode b_Screen_letterAt 32 = .ok (.bipush 20, 2) := by decide +kernel
theorem d_Screen_letterAt_34 : decode b_Screen_letterAt 34 = .ok (.if_icmp .ge 12, 3) := by decide +kernel
theorem d_Screen_letterAt_37 : decode b_Screen_letterAt 37 = .ok (.aload_n 0, 1) := by decide +kernel
theorem d_Screen_letterAt_38 : decode b_Screen_letterAt 38 = .ok (.getfield 26, 3) := by decide +kernel
theorem d_Screen_letterAt_41 : decode b_Screen_letterAt 41 = .ok (.iload_n 3, 1) := by decide +kernel
theorem d_Screen_letterAt_42 : decode b_Screen_letterAt 42 = .ok (.iaload, 1) := by decide +kernel
theorem d_Screen_letterAt_43 : decode b_Screen_letterAt 43 = .ok (.goto 5, 3) := by decide +kernel
theorem d_Screen_letterAt_46 : decode b_Screen_letterAt 46 = .ok (.bipush 32, 2) := by decide +kernel
theorem d_Screen_letterAt_48 : decode b_Screen_letterAt 48 = .ok (.ireturn, 1) := by decide +kernel
theorem d_Screen_headLetter_0 : decode b_Screen_headLetter 0 = .ok (.aload_n 0, 1) := by decide +kernel
theorem d_Screen_headLetter_1 : decode b_Screen_headLetter 1 = .ok (.getfield 22, 3) := by decide +kernel
theorem d_Screen_headLetter_4 : decode b_Screen_headLetter 4 = .ok (.getfield 66, 3) := by decide +kernel
theorem d_Screen_headLetter_7 : decode b_Screen_headLetter 7 = .ok (.sipush 256, 3) := by decide +kernel
theorem d_Screen_headLetter_10 : decode b_Screen_headLetter 10 = .ok (.idiv, 1) := by decide +kernel
theorem d_Screen_headLetter_11 : decode b_Screen_headLetter 11 = .ok (.bipush 8, 2) := by decide +kernel
theorem d_Screen_headLetter_13 : decode b_Screen_headLetter 13 = .ok (.irem, 1) := by decide +kernel
theorem d_Screen_headLetter_14 : decode b_Screen_headLetter 14 = .ok (.istore_n 2, 1) := by decide +kernel
theorem d_Screen_headLetter_15 : decode b_Screen_headLetter 15 = .ok (.iload_n 1, 1) := by decide +kernel
theorem d_Screen_headLetter_16 : decode b_Screen_headLetter 16 = .ok (.tableswitch 80 0 3 #[32, 35, 49, 66], 32) := by decide +kernel
theorem d_Screen_headLetter_48 : decode b_Screen_headLetter 48 = .ok (.bipush 80, 2) := by decide +kernel
theorem d_Screen_headLetter_50 : decode b_Screen_headLetter 50 = .ok (.ireturn, 1) := by decide +kernel
theorem d_Screen_headLetter_51 : decode b_Screen_headLetter 51 = .ok (.iload_n 2, 1) := by decide +kernel
theorem d_Screen_headLetter_52 : decode b_Screen_headLetter 52 = .ok (.ifCond .ne 8, 3) := by decide +kernel
theorem d_Screen_headLetter_55 : decode b_Screen_headLetter 55 = .ok (.bipush 8, 2) := by decide +kernel
theorem d_Screen_headLetter_57 : decode b_Screen_headLetter 57 = .ok (.goto 4, 3) := by decide +kernel
theorem d_Screen_headLetter_60 : decode b_Screen_headLetter 60 = .ok (.iload_n 2, 1) := by decide +kernel
theorem d_Screen_headLetter_61 : decode b_Screen_headLetter 61 = .ok (.invokestatic 70, 3) := by decide +kernel
theorem d_Screen_headLetter_64 : decode b_Screen_headLetter 64 = .ok (.ireturn, 1) := by decide +kernel
theorem d_Screen_headLetter_65 : decode b_Screen_headLetter 65 = .ok (.aload_n 0, 1) := by decide +kernel
theorem d_Screen_headLetter_66 : decode b_Screen_headLetter 66 = .ok (.getfield 22, 3) := by decide +kernel
theorem d_Screen_headLetter_69 : decode b_Screen_headLetter 69 = .ok (.getfield 66, 3) := by decide +kernel
theorem d_Screen_headLetter_72 : decode b_Screen_headLetter 72 = .ok (.bipush 16, 2) := by decide +kernel
theorem d_Screen_headLetter_74 : decode b_Screen_headLetter 74 = .ok (.idiv, 1) := by decide +kernel
theorem d_Screen_headLetter_75 : decode b_Screen_headLetter 75 = .ok (.bipush 16, 2) := by decide +kernel
theorem d_Screen_headLetter_77 : decode b_Screen_headLetter 77 = .ok (.irem, 1) := by decide +kernel
theorem d_Screen_headLetter_78 : decode b_Screen_headLetter 78 = .ok (.invokestatic 70, 3) := by decide +kernel
theorem d_Screen_headLetter_81 : decode b_Screen_headLetter 81 = .ok (.ireturn, 1) := by decide +kernel
theorem d_Screen_headLetter_82 : decode b_Screen_headLetter 82 = .ok (.aload_n 0, 1) := by decide +kernel
theorem d_Screen_headLetter_83 : decode b_Screen_headLetter 83 = .ok (.getfield 22, 3) := by decide +kernel
theorem d_Screen_headLetter_86 : decode b_Screen_headLetter 86 = .ok (.getfield 66, 3) := by decide +kernel
theorem d_Screen_headLetter_89 : decode b_Screen_headLetter 89 = .ok (.bipush 16, 2) := by decide +kernel
theorem d_Screen_headLetter_91 : decode b_Screen_headLetter 91 = .ok (.irem, 1) := by decide +kernel
theorem d_Screen_headLetter_92 : decode b_Screen_headLetter 92 = .ok (.invokestatic 70, 3) := by decide +kernel
theorem d_Screen_headLetter_95 : decode b_Screen_headLetter 95 = .ok (.ireturn, 1) := by decide +kernel
theorem d_Screen_headLetter_96 : decode b_Screen_headLetter 96 = .ok (.bipush 32, 2) := by decide +kernel
theorem d_Screen_headLetter_98 : decode b_Screen_headLetter 98 = .ok (.ireturn, 1) := by decide +kernel
theorem d_Screen_digitLetter_0 : decode b_Screen_digitLetter 0 = .ok (.iload_n 0, 1) := by decide +kernel
theorem d_Screen_digitLetter_1 : decode b_Screen_digitLetter 1 = .ok (.bipush 10, 2) := by decide +kernel
theorem d_Screen_digitLetter_3 : decode b_Screen_digitLetter 3 = .ok (.if_icmp .ge 10, 3) := by decide +kernel
theorem d_Screen_digitLetter_6 : decode b_Screen_digitLetter 6 = .ok (.bipush 48, 2) := by decide +kernel
theorem d_Screen_digitLetter_8 : decode b_Screen_digitLetter 8 = .ok (.iload_n 0, 1) := by decide +kernel
theorem d_Screen_digitLetter_9 : decode b_Screen_digitLetter 9 = .ok (.iadd, 1) := by decide +kernel
theorem d_Screen_digitLetter_10 : decode b_Screen_digitLetter 10 = .ok (.goto 10, 3) := by decide +kernel
theorem d_Screen_digitLetter_13 : decode b_Screen_digitLetter 13 = .ok (.bipush 65, 2) := by decide +kernel
theorem d_Screen_digitLetter_15 : decode b_Screen_digitLetter 15 = .ok (.iload_n 0, 1) := by decide +kernel
theorem d_Screen_digitLetter_16 : decode b_Screen_digitLetter 16 = .ok (.iadd, 1) := by decide +kernel
theorem d_Screen_digitLetter_17 : decode b_Screen_digitLetter 17 = .ok (.bipush 10, 2) := by decide +kernel
theorem d_Screen_digitLetter_19 : decode b_Screen_digitLetter 19 = .ok (.isub, 1) := by decide +kernel
theorem d_Screen_digitLetter_20 : decode b_Screen_digitLetter 20 = .ok (.ireturn, 1) := by decide +kernel
theorem d_Page_letterAt_0 : decode b_Page_letterAt 0 = .ok (.iload_n 1, 1) := by decide +kernel
theorem d_Page_letterAt_1 : decode b_Page_letterAt 1 = .ok (.iload_n 2, 1) := by decide +kernel
theorem d_Page_letterAt_2 : decode b_Page_letterAt 2 = .ok (.invokestatic 50, 3) := by decide +kernel
theorem d_Page_letterAt_5 : decode b_Page_letterAt 5 = .ok (.ifCond .eq 17, 3) := by decide +kernel
theorem d_Page_letterAt_8 : decode b_Page_letterAt 8 = .ok (.aload_n 0, 1) := by decide +kernel
theorem d_Page_letterAt_9 : decode b_Page_letterAt 9 = .ok (.getfield 9, 3) := by decide +kernel
theorem d_Page_letterAt_12 : decode b_Page_letterAt 12 = .ok (.iload_n 1, 1) := by decide +kernel
theorem d_Page_letterAt_13 : decode b_Page_letterAt 13 = .ok (.bipush 20, 2) := by decide +kernel
theorem d_Page_letterAt_15 : decode b_Page_letterAt 15 = .ok (.imul, 1) := by decide +kernel
theorem d_Page_letterAt_16 : decode b_Page_letterAt 16 = .ok (.iload_n 2, 1) := by decide +kernel
theorem d_Page_letterAt_17 : decode b_Page_letterAt 17 = .ok (.iadd, 1) := by decide +kernel
theorem d_Page_letterAt_18 : decode b_Page_letterAt 18 = .ok (.iaload, 1) := by decide +kernel
theorem d_Page_letterAt_19 : decode b_Page_letterAt 19 = .ok (.goto 5, 3) := by decide +kernel
theorem d_Page_letterAt_22 : decode b_Page_letterAt 22 = .ok (.bipush 32, 2) := by decide +kernel
theorem d_Page_letterAt_24 : decode b_Page_letterAt 24 = .ok (.ireturn, 1) := by decide +kernel
theorem d_States_begin_0 : decode b_States_begin 0 = .ok (.aload_n 0, 1) := by decide +kernel
theorem d_States_begin_1 : decode b_States_begin 1 = .ok (.bipush 7, 2) := by decide +kernel
theorem d_States_begin_3 : decode b_States_begin 3 = .ok (.putfield 9, 3) := by decide +kernel
theorem d_States_begin_6 : decode b_States_begin 6 = .ok (.aload_n 0, 1) := by decide +kernel
theorem d_States_begin_7 : decode b_States_begin 7 = .ok (.iconst 0, 1) := by decide +kernel
theorem d_States_begin_8 : decode b_States_begin 8 = .ok (.putfield 15, 3) := by decide +kernel
theorem d_States_begin_11 : decode b_States_begin 11 = .ok (.aload_n 0, 1) := by decide +kernel
theorem d_States_begin_12 : decode b_States_begin 12 = .ok (.iconst 0, 1) := by decide +kernel
theorem d_States_begin_13 : decode b_States_begin 13 = .ok (.putfield 18, 3) := by decide +kernel
theorem d_States_begin_16 : decode b_States_begin 16 = .ok (.aload_n 0, 1) := by decide +kernel
theorem d_States_begin_17 : decode b_States_begin 17 = .ok (.iconst 0, 1) := by decide +kernel
theorem d_States_begin_18 : decode b_States_begin 18 = .ok (.putfield 22, 3) := by decide +kernel
theorem d_States_begin_21 : decode b_States_begin 21 = .ok (.aload_n 0, 1) := by decide +kernel
theorem d_States_begin_22 : decode b_States_begin 22 = .ok (.iconst 0, 1) := by decide +kernel
theorem d_States_begin_23 : decode b_States_begin 23 = .ok (.putfield 25, 3) := by decide +kernel
theorem d_States_begin_26 : decode b_States_begin 26 = .ok (.aload_n 0, 1) := by decide +kernel
theorem d_States_begin_27 : decode b_States_begin 27 = .ok (.iconst 0, 1) := by decide +kernel
theorem d_States_begin_28 : decode b_States_begin 28 = .ok (.putfield 28, 3) := by decide +kernel
theorem d_States_begin_31 : decode b_States_begin 31 = .ok (.aload_n 0, 1) := by decide +kernel
theorem d_States_begin_32 : decode b_States_begin 32 = .ok (.iconst 0, 1) := by decide +kernel
theorem d_States_begin_33 : decode b_States_begin 33 = .ok (.putfield 31, 3) := by decide +kernel
theorem d_States_begin_36 : decode b_States_begin 36 = .ok (.aload_n 0, 1) := by decide +kernel
theorem d_States_begin_37 : decode b_States_begin 37 = .ok (.iconst 0, 1) := by decide +kernel
theorem d_States_begin_38 : decode b_States_begin 38 = .ok (.putfield 34, 3) := by decide +kernel
theorem d_States_begin_41 : decode b_States_begin 41 = .ok (.aload_n 0, 1) := by decide +kernel
theorem d_States_begin_42 : decode b_States_begin 42 = .ok (.iconst 0, 1) := by decide +kernel
theorem d_States_begin_43 : decode b_States_begin 43 = .ok (.putfield 37, 3) := by decide +kernel
theorem d_States_begin_46 : decode b_States_begin 46 = .ok (.aload_n 0, 1) := by decide +kernel
theorem d_States_begin_47 : decode b_States_begin 47 = .ok (.bipush 32, 2) := by decide +kernel
theorem d_States_begin_49 : decode b_States_begin 49 = .ok (.iconst 0, 1) := by decide +kernel
theorem d_States_begin_50 : decode b_States_begin 50 = .ok (.invokevirtual 40, 3) := by decide +kernel
theorem d_States_begin_53 : decode b_States_begin 53 = .ok (.return_, 1) := by decide +kernel
theorem d_States_holdLetter_0 : decode b_States_holdLetter 0 = .ok (.aload_n 0, 1) := by decide +kernel
theorem d_States_holdLetter_1 : decode b_States_holdLetter 1 = .ok (.iload_n 1, 1) := by decide +kernel
theorem d_States_holdLetter_2 : decode b_States_holdLetter 2 = .ok (.putfield 44, 3) := by decide +kernel
theorem d_States_holdLetter_5 : decode b_States_holdLetter 5 = .ok (.aload_n 0, 1) := by decide +kernel
theorem d_States_holdLetter_6 : decode b_States_holdLetter 6 = .ok (.iload_n 2, 1) := by decide +kernel
theorem d_States_holdLetter_7 : decode b_States_holdLetter 7 = .ok (.putfield 47, 3) := by decide +kernel
theorem d_States_holdLetter_10 : decode b_States_holdLetter 10 = .ok (.return_, 1) := by decide +kernel
theorem d_Screen_drawCell_0 : decode b_Screen_drawCell 0 = .ok (.aload_n 0, 1) := by decide +kernel
theorem d_Screen_drawCell_1 : decode b_Screen_drawCell 1 = .ok (.aload_n 1, 1) := by decide +kernel
theorem d_Screen_drawCell_2 : decode b_Screen_drawCell 2 = .ok (.iload_n 2, 1) := by decide +kernel
theorem d_Screen_drawCell_3 : decode b_Screen_drawCell 3 = .ok (.iload_n 3, 1) := by decide +kernel
theorem d_Screen_drawCell_4 : decode b_Screen_drawCell 4 = .ok (.invokevirtual 53, 3) := by decide +kernel
theorem d_Screen_drawCell_7 : decode b_Screen_drawCell 7 = .ok (.istore 4, 2) := by decide +kernel
theorem d_Screen_drawCell_9 : decode b_Screen_drawCell 9 = .ok (.iload 4, 2) := by decide +kernel
theorem d_Screen_drawCell_11 : decode b_Screen_drawCell 11 = .ok (.bipush 32, 2) := by decide +kernel
theorem d_Screen_drawCell_13 : decode b_Screen_drawCell 13 = .ok (.if_icmp .ge 19, 3) := by decide +kernel
theorem d_Screen_drawCell_16 : decode b_Screen_drawCell 16 = .ok (.aload_n 0, 1) := by decide +kernel
theorem d_Screen_drawCell_17 : decode b_Screen_drawCell 17 = .ok (.getfield 12, 3) := by decide +kernel
theorem d_Screen_drawCell_20 : decode b_Screen_drawCell 20 = .ok (.iload 4, 2) := by decide +kernel
theorem d_Screen_drawCell_22 : decode b_Screen_drawCell 22 = .ok (.invokevirtual 76, 3) := by decide +kernel
theorem d_Screen_drawCell_25 : decode b_Screen_drawCell 25 = .ok (.aload_n 0, 1) := by decide +kernel
theorem d_Screen_drawCell_26 : decode b_Screen_drawCell 26 = .ok (.invokevirtual 80, 3) := by decide +kernel
theorem d_Screen_drawCell_29 : decode b_Screen_drawCell 29 = .ok (.goto 27, 3) := by decide +kernel
theorem d_Screen_drawCell_32 : decode b_Screen_drawCell 32 = .ok (.aload_n 0, 1) := by decide +kernel
theorem d_Screen_drawCell_33 : decode b_Screen_drawCell 33 = .ok (.iload 4, 2) := by decide +kernel
theorem d_Screen_drawCell_35 : decode b_Screen_drawCell 35 = .ok (.aload_n 1, 1) := by decide +kernel
theorem d_Screen_drawCell_36 : decode b_Screen_drawCell 36 = .ok (.iload_n 2, 1) := by decide +kernel
theorem d_Screen_drawCell_37 : decode b_Screen_drawCell 37 = .ok (.iload_n 3, 1) := by decide +kernel
theorem d_Screen_drawCell_38 : decode b_Screen_drawCell 38 = .ok (.invokestatic 83, 3) := by decide +kernel
theorem d_Screen_drawCell_41 : decode b_Screen_drawCell 41 = .ok (.aload_n 1, 1) := by decide +kernel
theorem d_Screen_drawCell_42 : decode b_Screen_drawCell 42 = .ok (.ifnonnull 7, 3) := by decide +kernel
theorem d_Screen_drawCell_45 : decode b_Screen_drawCell 45 = .ok (.iconst 0, 1) := by decide +kernel
theorem d_Screen_drawCell_46 : decode b_Screen_drawCell 46 = .ok (.goto 7, 3) := by decide +kernel
theorem d_Screen_drawCell_49 : decode b_Screen_drawCell 49 = .ok (.aload_n 1, 1) := by decide +kernel
theorem d_Screen_drawCell_50 : decode b_Screen_drawCell 50 = .ok (.getfield 85, 3) := by decide +kernel
theorem d_Screen_drawCell_53 : decode b_Screen_drawCell 53 = .ok (.invokevirtual 88, 3) := by decide +kernel
theorem d_Screen_drawCell_56 : decode b_Screen_drawCell 56 = .ok (.aload_n 0, 1) := by decide +kernel
theorem d_Screen_drawCell_57 : decode b_Screen_drawCell 57 = .ok (.iload_n 2, 1) := by decide +kernel
theorem d_Screen_drawCell_58 : decode b_Screen_drawCell 58 = .ok (.invokevirtual 92, 3) := by decide +kernel
theorem d_Screen_drawCell_61 : decode b_Screen_drawCell 61 = .ok (.iload 4, 2) := by decide +kernel
theorem d_Screen_drawCell_63 : decode b_Screen_drawCell 63 = .ok (.bipush 32, 2) := by decide +kernel
theorem d_Screen_drawCell_65 : decode b_Screen_drawCell 65 = .ok (.if_icmp .ge 12, 3) := by decide +kernel
theorem d_Screen_drawCell_68 : decode b_Screen_drawCell 68 = .ok (.aload_n 0, 1) := by decide +kernel
theorem d_Screen_drawCell_69 : decode b_Screen_drawCell 69 = .ok (.getfield 12, 3) := by decide +kernel
theorem d_Screen_drawCell_72 : decode b_Screen_drawCell 72 = .ok (.iload 4, 2) := by decide +kernel
theorem d_Screen_drawCell_74 : decode b_Screen_drawCell 74 = .ok (.invokevirtual 95, 3) := by decide +kernel
theorem d_Screen_drawCell_77 : decode b_Screen_drawCell 77 = .ok (.return_, 1) := by decide +kernel
