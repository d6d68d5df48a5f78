theorem d_Mod_digit_0 : decode b_Mod_digit 0 = .ok (.aload_n 0, 1) := by decide +kernel
theorem d_Mod_digit_1 : decode b_Mod_digit 1 = .ok (.getfield 138, 3) := by decide +kernel
theorem d_Mod_digit_4 : decode b_Mod_digit 4 = .ok (.ifCond .ne 15, 3) := by decide +kernel
theorem d_Mod_digit_7 : decode b_Mod_digit 7 = .ok (.iload_n 1, 1) := by decide +kernel
theorem d_Mod_digit_8 : decode b_Mod_digit 8 = .ok (.ifCond .eq 9, 3) := by decide +kernel
theorem d_Mod_digit_11 : decode b_Mod_digit 11 = .ok (.iload_n 1, 1) := by decide +kernel
theorem d_Mod_digit_12 : decode b_Mod_digit 12 = .ok (.bipush 9, 2) := by decide +kernel
theorem d_Mod_digit_14 : decode b_Mod_digit 14 = .ok (.if_icmp .ne 5, 3) := by decide +kernel
theorem d_Mod_digit_17 : decode b_Mod_digit 17 = .ok (.iconst 0, 1) := by decide +kernel
theorem d_Mod_digit_18 : decode b_Mod_digit 18 = .ok (.ireturn, 1) := by decide +kernel
theorem d_Mod_digit_19 : decode b_Mod_digit 19 = .ok (.aload_n 0, 1) := by decide +kernel
theorem d_Mod_digit_20 : decode b_Mod_digit 20 = .ok (.getfield 138, 3) := by decide +kernel
theorem d_Mod_digit_23 : decode b_Mod_digit 23 = .ok (.iconst 2, 1) := by decide +kernel
theorem d_Mod_digit_24 : decode b_Mod_digit 24 = .ok (.if_icmp .ne 28, 3) := by decide +kernel
theorem d_Mod_digit_27 : decode b_Mod_digit 27 = .ok (.aload_n 0, 1) := by decide +kernel
theorem d_Mod_digit_28 : decode b_Mod_digit 28 = .ok (.sipush 256, 3) := by decide +kernel
theorem d_Mod_digit_31 : decode b_Mod_digit 31 = .ok (.aload_n 0, 1) := by decide +kernel
theorem d_Mod_digit_32 : decode b_Mod_digit 32 = .ok (.getfield 141, 3) := by decide +kernel
theorem d_Mod_digit_35 : decode b_Mod_digit 35 = .ok (.bipush 8, 2) := by decide +kernel
theorem d_Mod_digit_37 : decode b_Mod_digit 37 = .ok (.irem, 1) := by decide +kernel
theorem d_Mod_digit_38 : decode b_Mod_digit 38 = .ok (.imul, 1) := by decide +kernel
theorem d_Mod_digit_39 : decode b_Mod_digit 39 = .ok (.bipush 16, 2) := by decide +kernel
theorem d_Mod_digit_41 : decode b_Mod_digit 41 = .ok (.aload_n 0, 1) := by decide +kernel
theorem d_Mod_digit_42 : decode b_Mod_digit 42 = .ok (.getfield 144, 3) := by decide +kernel
theorem d_Mod_digit_45 : decode b_Mod_digit 45 = .ok (.imul, 1) := by decide +kernel
theorem d_Mod_digit_46 : decode b_Mod_digit 46 = .ok (.iadd, 1) := by decide +kernel
theorem d_Mod_digit_47 : decode b_Mod_digit 47 = .ok (.iload_n 1, 1) := by decide +kernel
theorem d_Mod_digit_48 : decode b_Mod_digit 48 = .ok (.iadd, 1) := by decide +kernel
theorem d_Mod_digit_49 : decode b_Mod_digit 49 = .ok (.invokevirtual 147, 3) := by decide +kernel
theorem d_Mod_digit_52 : decode b_Mod_digit 52 = .ok (.aload_n 0, 1) := by decide +kernel
theorem d_Mod_digit_53 : decode b_Mod_digit 53 = .ok (.aload_n 0, 1) := by decide +kernel
theorem d_Mod_digit_54 : decode b_Mod_digit 54 = .ok (.getfield 138, 3) := by decide +kernel
theorem d_Mod_digit_57 : decode b_Mod_digit 57 = .ok (.ifCond .ne 7, 3) := by decide +kernel
theorem d_Mod_digit_60 : decode b_Mod_digit 60 = .ok (.iload_n 1, 1) := by decide +kernel
theorem d_Mod_digit_61 : decode b_Mod_digit 61 = .ok (.goto 7, 3) := by decide +kernel
theorem d_Mod_digit_64 : decode b_Mod_digit 64 = .ok (.aload_n 0, 1) := by decide +kernel
theorem d_Mod_digit_65 : decode b_Mod_digit 65 = .ok (.getfield 141, 3) := by decide +kernel
theorem d_Mod_digit_68 : decode b_Mod_digit 68 = .ok (.putfield 141, 3) := by decide +kernel
theorem d_Mod_digit_71 : decode b_Mod_digit 71 = .ok (.aload_n 0, 1) := by decide +kernel
theorem d_Mod_digit_72 : decode b_Mod_digit 72 = .ok (.aload_n 0, 1) := by decide +kernel
theorem d_Mod_digit_73 : decode b_Mod_digit 73 = .ok (.getfield 138, 3) := by decide +kernel
theorem d_Mod_digit_76 : decode b_Mod_digit 76 = .ok (.iconst 1, 1) := by decide +kernel
theorem d_Mod_digit_77 : decode b_Mod_digit 77 = .ok (.if_icmp .ne 7, 3) := by decide +kernel
theorem d_Mod_digit_80 : decode b_Mod_digit 80 = .ok (.iload_n 1, 1) := by decide +kernel
theorem d_Mod_digit_81 : decode b_Mod_digit 81 = .ok (.goto 7, 3) := by decide +kernel
theorem d_Mod_digit_84 : decode b_Mod_digit 84 = .ok (.aload_n 0, 1) := by decide +kernel
theorem d_Mod_digit_85 : decode b_Mod_digit 85 = .ok (.getfield 144, 3) := by decide +kernel
theorem d_Mod_digit_88 : decode b_Mod_digit 88 = .ok (.putfield 144, 3) := by decide +kernel
theorem d_Mod_digit_91 : decode b_Mod_digit 91 = .ok (.aload_n 0, 1) := by decide +kernel
theorem d_Mod_digit_92 : decode b_Mod_digit 92 = .ok (.aload_n 0, 1) := by decide +kernel
theorem d_Mod_digit_93 : decode b_Mod_digit 93 = .ok (.getfield 138, 3) := by decide +kernel
theorem d_Mod_digit_96 : decode b_Mod_digit 96 = .ok (.iconst 1, 1) := by decide +kernel
theorem d_Mod_digit_97 : decode b_Mod_digit 97 = .ok (.iadd, 1) := by decide +kernel
theorem d_Mod_digit_98 : decode b_Mod_digit 98 = .ok (.iconst 3, 1) := by decide +kernel
theorem d_Mod_digit_99 : decode b_Mod_digit 99 = .ok (.irem, 1) := by decide +kernel
theorem d_Mod_digit_100 : decode b_Mod_digit 100 = .ok (.putfield 138, 3) := by decide +kernel
theorem d_Mod_digit_103 : decode b_Mod_digit 103 = .ok (.iconst 1, 1) := by decide +kernel
theorem d_Mod_digit_104 : decode b_Mod_digit 104 = .ok (.ireturn, 1) := by decide +kernel
theorem d_Mod_want_0 : decode b_Mod_want 0 = .ok (.aload_n 0, 1) := by decide +kernel
theorem d_Mod_want_1 : decode b_Mod_want 1 = .ok (.iload_n 1, 1) := by decide +kernel
theorem d_Mod_want_2 : decode b_Mod_want 2 = .ok (.putfield 44, 3) := by decide +kernel
theorem d_Mod_want_5 : decode b_Mod_want 5 = .ok (.aload_n 0, 1) := by decide +kernel
theorem d_Mod_want_6 : decode b_Mod_want 6 = .ok (.getfield 7, 3) := by decide +kernel
theorem d_Mod_want_9 : decode b_Mod_want 9 = .ok (.bipush 12, 2) := by decide +kernel
theorem d_Mod_want_11 : decode b_Mod_want 11 = .ok (.iconst 0, 1) := by decide +kernel
theorem d_Mod_want_12 : decode b_Mod_want 12 = .ok (.bastore, 1) := by decide +kernel
theorem d_Mod_want_13 : decode b_Mod_want 13 = .ok (.aload_n 0, 1) := by decide +kernel
theorem d_Mod_want_14 : decode b_Mod_want 14 = .ok (.iconst 0, 1) := by decide +kernel
theorem d_Mod_want_15 : decode b_Mod_want 15 = .ok (.putfield 135, 3) := by decide +kernel
theorem d_Mod_want_18 : decode b_Mod_want 18 = .ok (.return_, 1) := by decide +kernel
theorem d_Mod_shownAt_0 : decode b_Mod_shownAt 0 = .ok (.aload_n 0, 1) := by decide +kernel
theorem d_Mod_shownAt_1 : decode b_Mod_shownAt 1 = .ok (.getfield 7, 3) := by decide +kernel
theorem d_Mod_shownAt_4 : decode b_Mod_shownAt 4 = .ok (.bipush 12, 2) := by decide +kernel
theorem d_Mod_shownAt_6 : decode b_Mod_shownAt 6 = .ok (.baload, 1) := by decide +kernel
theorem d_Mod_shownAt_7 : decode b_Mod_shownAt 7 = .ok (.ifCond .eq 8, 3) := by decide +kernel
theorem d_Mod_shownAt_10 : decode b_Mod_shownAt 10 = .ok (.bipush 12, 2) := by decide +kernel
theorem d_Mod_shownAt_12 : decode b_Mod_shownAt 12 = .ok (.goto 11, 3) := by decide +kernel
theorem d_Mod_shownAt_15 : decode b_Mod_shownAt 15 = .ok (.aload_n 0, 1) := by decide +kernel
theorem d_Mod_shownAt_16 : decode b_Mod_shownAt 16 = .ok (.aload_n 0, 1) := by decide +kernel
theorem d_Mod_shownAt_17 : decode b_Mod_shownAt 17 = .ok (.getfield 44, 3) := by decide +kernel
theorem d_Mod_shownAt_20 : decode b_Mod_shownAt 20 = .ok (.invokevirtual 80, 3) := by decide +kernel
theorem d_Mod_shownAt_23 : decode b_Mod_shownAt 23 = .ok (.ireturn, 1) := by decide +kernel
theorem d_Mod_tick_0 : decode b_Mod_tick 0 = .ok (.aload_n 0, 1) := by decide +kernel
theorem d_Mod_tick_1 : decode b_Mod_tick 1 = .ok (.aload_n 0, 1) := by decide +kernel
theorem d_Mod_tick_2 : decode b_Mod_tick 2 = .ok (.getfield 48, 3) := by decide +kernel
theorem d_Mod_tick_5 : decode b_Mod_tick 5 = .ok (.ifCond .ne 7, 3) := by decide +kernel
theorem d_Mod_tick_8 : decode b_Mod_tick 8 = .ok (.iconst 1, 1) := by decide +kernel
theorem d_Mod_tick_9 : decode b_Mod_tick 9 = .ok (.goto 4, 3) := by decide +kernel
theorem d_Mod_tick_12 : decode b_Mod_tick 12 = .ok (.iconst 0, 1) := by decide +kernel
theorem d_Mod_tick_13 : decode b_Mod_tick 13 = .ok (.putfield 48, 3) := by decide +kernel
theorem d_Mod_tick_16 : decode b_Mod_tick 16 = .ok (.aload_n 0, 1) := by decide +kernel
theorem d_Mod_tick_17 : decode b_Mod_tick 17 = .ok (.getfield 48, 3) := by decide +kernel
theorem d_Mod_tick_20 : decode b_Mod_tick 20 = .ok (.ireturn, 1) := by decide +kernel
theorem d_Mod_shown_0 : decode b_Mod_shown 0 = .ok (.aload_n 0, 1) := by decide +kernel
theorem d_Mod_shown_1 : decode b_Mod_shown 1 = .ok (.invokevirtual 154, 3) := by decide +kernel
theorem d_Mod_shown_4 : decode b_Mod_shown 4 = .ok (.istore_n 1, 1) := by decide +kernel
theorem d_Mod_shown_5 : decode b_Mod_shown 5 = .ok (.iload_n 1, 1) := by decide +kernel
theorem d_Mod_shown_6 : decode b_Mod_shown 6 = .ok (.ifCond .ge 7, 3) := by decide +kernel
theorem d_Mod_shown_9 : decode b_Mod_shown 9 = .ok (.iconst (-1), 1) := by decide +kernel
theorem d_Mod_shown_10 : decode b_Mod_shown 10 = .ok (.goto 9, 3) := by decide +kernel
theorem d_Mod_shown_13 : decode b_Mod_shown 13 = .ok (.aload_n 0, 1) := by decide +kernel
theorem d_Mod_shown_14 : decode b_Mod_shown 14 = .ok (.getfield 13, 3) := by decide +kernel
theorem d_Mod_shown_17 : decode b_Mod_shown 17 = .ok (.iload_n 1, 1) := by decide +kernel
theorem d_Mod_shown_18 : decode b_Mod_shown 18 = .ok (.iaload, 1) := by decide +kernel
theorem d_Mod_shown_19 : decode b_Mod_shown 19 = .ok (.ireturn, 1) := by decide +kernel
theorem d_Mod_viewer_0 : decode b_Mod_viewer 0 = .ok (.iload_n 1, 1) := by decide +kernel
theorem d_Mod_viewer_1 : decode b_Mod_viewer 1 = .ok (.ifCond .ne 10, 3) := by decide +kernel
theorem d_Mod_viewer_4 : decode b_Mod_viewer 4 = .ok (.aload_n 0, 1) := by decide +kernel
theorem d_Mod_viewer_5 : decode b_Mod_viewer 5 = .ok (.getfield 44, 3) := by decide +kernel
theorem d_Mod_viewer_8 : decode b_Mod_viewer 8 = .ok (.goto 59, 3) := by decide +kernel
theorem d_Mod_viewer_11 : decode b_Mod_viewer 11 = .ok (.iload_n 1, 1) := by decide +kernel
theorem d_Mod_viewer_12 : decode b_Mod_viewer 12 = .ok (.iconst 1, 1) := by decide +kernel
theorem d_Mod_viewer_13 : decode b_Mod_viewer 13 = .ok (.if_icmp .ne 10, 3) := by decide +kernel
theorem d_Mod_viewer_16 : decode b_Mod_viewer 16 = .ok (.aload_n 0, 1) := by decide +kernel
theorem d_Mod_viewer_17 : decode b_Mod_viewer 17 = .ok (.getfield 138, 3) := by decide +kernel
theorem d_Mod_viewer_20 : decode b_Mod_viewer 20 = .ok (.goto 47, 3) := by decide +kernel
theorem d_Mod_viewer_23 : decode b_Mod_viewer 23 = .ok (.iload_n 1, 1) := by decide +kernel
theorem d_Mod_viewer_24 : decode b_Mod_viewer 24 = .ok (.iconst 2, 1) := by decide +kernel
theorem d_Mod_viewer_25 : decode b_Mod_viewer 25 = .ok (.if_icmp .ne 21, 3) := by decide +kernel
theorem d_Mod_viewer_28 : decode b_Mod_viewer 28 = .ok (.aload_n 0, 1) := by decide +kernel
theorem d_Mod_viewer_29 : decode b_Mod_viewer 29 = .ok (.getfield 7, 3) := by decide +kernel
theorem d_Mod_viewer_32 : decode b_Mod_viewer 32 = .ok (.bipush 12, 2) := by decide +kernel
theorem d_Mod_viewer_34 : decode b_Mod_viewer 34 = .ok (.baload, 1) := by decide +kernel
theorem d_Mod_viewer_35 : decode b_Mod_viewer 35 = .ok (.ifCond .eq 7, 3) := by decide +kernel
theorem d_Mod_viewer_38 : decode b_Mod_viewer 38 = .ok (.iconst 1, 1) := by decide +kernel
theorem d_Mod_viewer_39 : decode b_Mod_viewer 39 = .ok (.goto 28, 3) := by decide +kernel
theorem d_Mod_viewer_42 : decode b_Mod_viewer 42 = .ok (.iconst 0, 1) := by decide +kernel
theorem d_Mod_viewer_43 : decode b_Mod_viewer 43 = .ok (.goto 24, 3) := by decide +kernel
theorem d_Mod_viewer_46 : decode b_Mod_viewer 46 = .ok (.iload_n 1, 1) := by decide +kernel
theorem d_Mod_viewer_47 : decode b_Mod_viewer 47 = .ok (.iconst 3, 1) := by decide +kernel
theorem d_Mod_viewer_48 : decode b_Mod_viewer 48 = .ok (.if_icmp .ne 18, 3) := by decide +kernel
theorem d_Mod_viewer_51 : decode b_Mod_viewer 51 = .ok (.aload_n 0, 1) := by decide +kernel
theorem d_Mod_viewer_52 : decode b_Mod_viewer 52 = .ok (.getfield 135, 3) := by decide +kernel
theorem d_Mod_viewer_55 : decode b_Mod_viewer 55 = .ok (.ifCond .eq 7, 3) := by decide +kernel
theorem d_Mod_viewer_58 : decode b_Mod_viewer 58 = .ok (.iconst 1, 1) := by decide +kernel
theorem d_Mod_viewer_59 : decode b_Mod_viewer 59 = .ok (.goto 8, 3) := by decide +kernel
theorem d_Mod_viewer_62 : decode b_Mod_viewer 62 = .ok (.iconst 0, 1) := by decide +kernel
theorem d_Mod_viewer_63 : decode b_Mod_viewer 63 = .ok (.goto 4, 3) := by decide +kernel
theorem d_Mod_viewer_66 : decode b_Mod_viewer 66 = .ok (.iconst (-1), 1) := by decide +kernel
theorem d_Mod_viewer_67 : decode b_Mod_viewer 67 = .ok (.ireturn, 1) := by decide +kernel
theorem d_Mod_kept_0 : decode b_Mod_kept 0 = .ok (.iload_n 1, 1) := by decide +kernel
theorem d_Mod_kept_1 : decode b_Mod_kept 1 = .ok (.ifCond .lt 33, 3) := by decide +kernel
theorem d_Mod_kept_4 : decode b_Mod_kept 4 = .ok (.iload_n 1, 1) := by decide +kernel
theorem d_Mod_kept_5 : decode b_Mod_kept 5 = .ok (.aload_n 0, 1) := by decide +kernel
theorem d_Mod_kept_6 : decode b_Mod_kept 6 = .ok (.getfield 70, 3) := by decide +kernel
theorem d_Mod_kept_9 : decode b_Mod_kept 9 = .ok (.if_icmp .ge 25, 3) := by decide +kernel
theorem d_Mod_kept_12 : decode b_Mod_kept 12 = .ok (.aload_n 0, 1) := by decide +kernel
theorem d_Mod_kept_13 : decode b_Mod_kept 13 = .ok (.getfield 7, 3) := by decide +kernel
theorem d_Mod_kept_16 : decode b_Mod_kept 16 = .ok (.bipush 8, 2) := by decide +kernel
theorem d_Mod_kept_18 : decode b_Mod_kept 18 = .ok (.iload_n 1, 1) := by decide +kernel
theorem d_Mod_kept_19 : decode b_Mod_kept 19 = .ok (.iadd, 1) := by decide +kernel
theorem d_Mod_kept_20 : decode b_Mod_kept 20 = .ok (.baload, 1) := by decide +kernel
theorem d_Mod_kept_21 : decode b_Mod_kept 21 = .ok (.ifCond .eq 13, 3) := by decide +kernel
theorem d_Mod_kept_24 : decode b_Mod_kept 24 = .ok (.iload_n 2, 1) := by decide +kernel
theorem d_Mod_kept_25 : decode b_Mod_kept 25 = .ok (.ifCond .lt 9, 3) := by decide +kernel
theorem d_Mod_kept_28 : decode b_Mod_kept 28 = .ok (.iload_n 2, 1) := by decide +kernel
theorem d_Mod_kept_29 : decode b_Mod_kept 29 = .ok (.bipush 7, 2) := by decide +kernel
theorem d_Mod_kept_31 : decode b_Mod_kept 31 = .ok (.if_icmp .le 5, 3) := by decide +kernel
theorem d_Mod_kept_34 : decode b_Mod_kept 34 = .ok (.iconst (-1), 1) := by decide +kernel
theorem d_Mod_kept_35 : decode b_Mod_kept 35 = .ok (.ireturn, 1) := by decide +kernel
theorem d_Mod_kept_36 : decode b_Mod_kept 36 = .ok (.bipush 8, 2) := by decide +kernel
theorem d_Mod_kept_38 : decode b_Mod_kept 38 = .ok (.iload_n 1, 1) := by decide +kernel
theorem d_Mod_kept_39 : decode b_Mod_kept 39 = .ok (.iadd, 1) := by decide +kernel
theorem d_Mod_kept_40 : decode b_Mod_kept 40 = .ok (.istore_n 3, 1) := by decide +kernel
theorem d_Mod_kept_41 : decode b_Mod_kept 41 = .ok (.iload_n 2, 1) := by decide +kernel
theorem d_Mod_kept_42 : decode b_Mod_kept 42 = .ok (.ifCond .ne 12, 3) := by decide +kernel
theorem d_Mod_kept_45 : decode b_Mod_kept 45 = .ok (.aload_n 0, 1) := by decide +kernel
theorem d_Mod_kept_46 : decode b_Mod_kept 46 = .ok (.getfield 13, 3) := by decide +kernel
theorem d_Mod_kept_49 : decode b_Mod_kept 49 = .ok (.iload_n 3, 1) := by decide +kernel
theorem d_Mod_kept_50 : decode b_Mod_kept 50 = .ok (.iaload, 1) := by decide +kernel
theorem d_Mod_kept_51 : decode b_Mod_kept 51 = .ok (.goto 57, 3) := by decide +kernel
theorem d_Mod_kept_54 : decode b_Mod_kept 54 = .ok (.iload_n 2, 1) := by decide +kernel
theorem d_Mod_kept_55 : decode b_Mod_kept 55 = .ok (.iconst 1, 1) := by decide +kernel
theorem d_Mod_kept_56 : decode b_Mod_kept 56 = .ok (.if_icmp .ne 12, 3) := by decide +kernel
theorem d_Mod_kept_59 : decode b_Mod_kept 59 = .ok (.aload_n 0, 1) := by decide +kernel
theorem d_Mod_kept_60 : decode b_Mod_kept 60 = .ok (.getfield 17, 3) := by decide +kernel
theorem d_Mod_kept_63 : decode b_Mod_kept 63 = .ok (.iload_n 3, 1) := by decide +kernel
theorem d_Mod_kept_64 : decode b_Mod_kept 64 = .ok (.iaload, 1) := by decide +kernel
theorem d_Mod_kept_65 : decode b_Mod_kept 65 = .ok (.goto 43, 3) := by decide +kernel
theorem d_Mod_kept_68 : decode b_Mod_kept 68 = .ok (.iload_n 2, 1) := by decide +kernel
theorem d_Mod_kept_69 : decode b_Mod_kept 69 = .ok (.iconst 2, 1) := by decide +kernel
theorem d_Mod_kept_70 : decode b_Mod_kept 70 = .ok (.if_icmp .ne 12, 3) := by decide +kernel
theorem d_Mod_kept_73 : decode b_Mod_kept 73 = .ok (.aload_n 0, 1) := by decide +kernel
theorem d_Mod_kept_74 : decode b_Mod_kept 74 = .ok (.getfield 20, 3) := by decide +kernel
theorem d_Mod_kept_77 : decode b_Mod_kept 77 = .ok (.iload_n 3, 1) := by decide +kernel
theorem d_Mod_kept_78 : decode b_Mod_kept 78 = .ok (.iaload, 1) := by decide +kernel
theorem d_Mod_kept_79 : decode b_Mod_kept 79 = .ok (.goto 29, 3) := by decide +kernel
theorem d_Mod_kept_82 : decode b_Mod_kept 82 = .ok (.iload_n 2, 1) := by decide +kernel
theorem d_Mod_kept_83 : decode b_Mod_kept 83 = .ok (.iconst 3, 1) := by decide +kernel
theorem d_Mod_kept_84 : decode b_Mod_kept 84 = .ok (.if_icmp .ne 12, 3) := by decide +kernel
theorem d_Mod_kept_87 : decode b_Mod_kept 87 = .ok (.aload_n 0, 1) := by decide +kernel
theorem d_Mod_kept_88 : decode b_Mod_kept 88 = .ok (.getfield 23, 3) := by decide +kernel
theorem d_Mod_kept_91 : decode b_Mod_kept 91 = .ok (.iload_n 3, 1) := by decide +kernel
theorem d_Mod_kept_92 : decode b_Mod_kept 92 = .ok (.iaload, 1) := by decide +kernel
theorem d_Mod_kept_93 : decode b_Mod_kept 93 = .ok (.goto 15, 3) := by decide +kernel
theorem d_Mod_kept_96 : decode b_Mod_kept 96 = .ok (.aload_n 0, 1) := by decide +kernel
theorem d_Mod_kept_97 : decode b_Mod_kept 97 = .ok (.getfield 26, 3) := by decide +kernel
theorem d_Mod_kept_100 : decode b_Mod_kept 100 = .ok (.iconst 4, 1) := by decide +kernel
theorem d_Mod_kept_101 : decode b_Mod_kept 101 = .ok (.iload_n 3, 1) := by decide +kernel
theorem d_Mod_kept_102 : decode b_Mod_kept 102 = .ok (.imul, 1) := by decide +kernel
theorem d_Mod_kept_103 : decode b_Mod_kept 103 = .ok (.iload_n 2, 1) := by decide +kernel
theorem d_Mod_kept_104 : decode b_Mod_kept 104 = .ok (.iadd, 1) := by decide +kernel
theorem d_Mod_kept_105 : decode b_Mod_kept 105 = .ok (.iconst 4, 1) := by decide +kernel
theorem d_Mod_kept_106 : decode b_Mod_kept 106 = .ok (.isub, 1) := by decide +kernel
theorem d_Mod_kept_107 : decode b_Mod_kept 107 = .ok (.iaload, 1) := by decide +kernel
theorem d_Mod_kept_108 : decode b_Mod_kept 108 = .ok (.ireturn, 1) := by decide +kernel
theorem d_Mod_count_0 : decode b_Mod_count 0 = .ok (.iload_n 1, 1) := by decide +kernel
theorem d_Mod_count_1 : decode b_Mod_count 1 = .ok (.ifCond .lt 8, 3) := by decide +kernel
theorem d_Mod_count_4 : decode b_Mod_count 4 = .ok (.iload_n 1, 1) := by decide +kernel
theorem d_Mod_count_5 : decode b_Mod_count 5 = .ok (.iconst 5, 1) := by decide +kernel
theorem d_Mod_count_6 : decode b_Mod_count 6 = .ok (.if_icmp .le 7, 3) := by decide +kernel
theorem d_Mod_count_9 : decode b_Mod_count 9 = .ok (.iconst (-1), 1) := by decide +kernel
theorem d_Mod_count_10 : decode b_Mod_count 10 = .ok (.goto 9, 3) := by decide +kernel
theorem d_Mod_count_13 : decode b_Mod_count 13 = .ok (.aload_n 0, 1) := by decide +kernel
theorem d_Mod_count_14 : decode b_Mod_count 14 = .ok (.getfield 41, 3) := by decide +kernel
theorem d_Mod_count_17 : decode b_Mod_count 17 = .ok (.iload_n 1, 1) := by decide +kernel
theorem d_Mod_count_18 : decode b_Mod_count 18 = .ok (.iaload, 1) := by decide +kernel
theorem d_Mod_count_19 : decode b_Mod_count 19 = .ok (.ireturn, 1) := by decide +kernel
theorem d_Mod_look_0 : decode b_Mod_look 0 = .ok (.iload_n 1, 1) := by decide +kernel
theorem d_Mod_look_1 : decode b_Mod_look 1 = .ok (.iload_n 2, 1) := by decide +kernel
theorem d_Mod_look_2 : decode b_Mod_look 2 = .ok (.invokestatic 233, 3) := by decide +kernel
theorem d_Mod_look_5 : decode b_Mod_look 5 = .ok (.ifCond .eq 12, 3) := by decide +kernel
theorem d_Mod_look_8 : decode b_Mod_look 8 = .ok (.iload_n 3, 1) := by decide +kernel
theorem d_Mod_look_9 : decode b_Mod_look 9 = .ok (.ifCond .lt 8, 3) := by decide +kernel
theorem d_Mod_look_12 : decode b_Mod_look 12 = .ok (.iload_n 3, 1) := by decide +kernel
theorem d_Mod_look_13 : decode b_Mod_look 13 = .ok (.iconst 3, 1) := by decide +kernel
theorem d_Mod_look_14 : decode b_Mod_look 14 = .ok (.if_icmp .le 5, 3) := by decide +kernel
theorem d_Mod_look_17 : decode b_Mod_look 17 = .ok (.iconst (-1), 1) := by decide +kernel
theorem d_Mod_look_18 : decode b_Mod_look 18 = .ok (.ireturn, 1) := by decide +kernel
theorem d_Mod_look_19 : decode b_Mod_look 19 = .ok (.aload_n 0, 1) := by decide +kernel
theorem d_Mod_look_20 : decode b_Mod_look 20 = .ok (.iload_n 1, 1) := by decide +kernel
theorem d_Mod_look_21 : decode b_Mod_look 21 = .ok (.invokevirtual 237, 3) := by decide +kernel
theorem d_Mod_look_24 : decode b_Mod_look 24 = .ok (.iload_n 3, 1) := by decide +kernel
theorem d_Mod_look_25 : decode b_Mod_look 25 = .ok (.ifCond .ne 12, 3) := by decide +kernel
theorem d_Mod_look_28 : decode b_Mod_look 28 = .ok (.aload_n 0, 1) := by decide +kernel
theorem d_Mod_look_29 : decode b_Mod_look 29 = .ok (.getfield 58, 3) := by decide +kernel
theorem d_Mod_look_32 : decode b_Mod_look 32 = .ok (.iload_n 2, 1) := by decide +kernel
theorem d_Mod_look_33 : decode b_Mod_look 33 = .ok (.iaload, 1) := by decide +kernel
theorem d_Mod_look_34 : decode b_Mod_look 34 = .ok (.goto 37, 3) := by decide +kernel
theorem d_Mod_look_37 : decode b_Mod_look 37 = .ok (.iload_n 3, 1) := by decide +kernel
theorem d_Mod_look_38 : decode b_Mod_look 38 = .ok (.iconst 1, 1) := by decide +kernel
theorem d_Mod_look_39 : decode b_Mod_look 39 = .ok (.if_icmp .ne 12, 3) := by decide +kernel
theorem d_Mod_look_42 : decode b_Mod_look 42 = .ok (.aload_n 0, 1) := by decide +kernel
theorem d_Mod_look_43 : decode b_Mod_look 43 = .ok (.getfield 61, 3) := by decide +kernel
theorem d_Mod_look_46 : decode b_Mod_look 46 = .ok (.iload_n 2, 1) := by decide +kernel
theorem d_Mod_look_47 : decode b_Mod_look 47 = .ok (.iaload, 1) := by decide +kernel
theorem d_Mod_look_48 : decode b_Mod_look 48 = .ok (.goto 23, 3) := by decide +kernel
theorem d_Mod_look_51 : decode b_Mod_look 51 = .ok (.iload_n 3, 1) := by decide +kernel
theorem d_Mod_look_52 : decode b_Mod_look 52 = .ok (.iconst 2, 1) := by decide +kernel
theorem d_Mod_look_53 : decode b_Mod_look 53 = .ok (.if_icmp .ne 12, 3) := by decide +kernel
theorem d_Mod_look_56 : decode b_Mod_look 56 = .ok (.aload_n 0, 1) := by decide +kernel
theorem d_Mod_look_57 : decode b_Mod_look 57 = .ok (.getfield 64, 3) := by decide +kernel
theorem d_Mod_look_60 : decode b_Mod_look 60 = .ok (.iload_n 2, 1) := by decide +kernel
theorem d_Mod_look_61 : decode b_Mod_look 61 = .ok (.iaload, 1) := by decide +kernel
theorem d_Mod_look_62 : decode b_Mod_look 62 = .ok (.goto 9, 3) := by decide +kernel
theorem d_Mod_look_65 : decode b_Mod_look 65 = .ok (.aload_n 0, 1) := by decide +kernel
theorem d_Mod_look_66 : decode b_Mod_look 66 = .ok (.getfield 67, 3) := by decide +kernel
theorem d_Mod_look_69 : decode b_Mod_look 69 = .ok (.iload_n 2, 1) := by decide +kernel
theorem d_Mod_look_70 : decode b_Mod_look 70 = .ok (.iaload, 1) := by decide +kernel
theorem d_Mod_look_71 : decode b_Mod_look 71 = .ok (.ireturn, 1) := by decide +kernel
theorem d_Mod_isCell_0 : decode b_Mod_isCell 0 = .ok (.iload_n 0, 1) := by decide +kernel
theorem d_Mod_isCell_1 : decode b_Mod_isCell 1 = .ok (.ifCond .lt 23, 3) := by decide +kernel
theorem d_Mod_isCell_4 : decode b_Mod_isCell 4 = .ok (.iload_n 0, 1) := by decide +kernel
theorem d_Mod_isCell_5 : decode b_Mod_isCell 5 = .ok (.bipush 8, 2) := by decide +kernel
theorem d_Mod_isCell_7 : decode b_Mod_isCell 7 = .ok (.if_icmp .ge 17, 3) := by decide +kernel
theorem d_Mod_isCell_10 : decode b_Mod_isCell 10 = .ok (.iload_n 1, 1) := by decide +kernel
theorem d_Mod_isCell_11 : decode b_Mod_isCell 11 = .ok (.ifCond .lt 13, 3) := by decide +kernel
theorem d_Mod_isCell_14 : decode b_Mod_isCell 14 = .ok (.iload_n 1, 1) := by decide +kernel
theorem d_Mod_isCell_15 : decode b_Mod_isCell 15 = .ok (.bipush 20, 2) := by decide +kernel
theorem d_Mod_isCell_17 : decode b_Mod_isCell 17 = .ok (.if_icmp .ge 7, 3) := by decide +kernel
theorem d_Mod_isCell_20 : decode b_Mod_isCell 20 = .ok (.iconst 1, 1) := by decide +kernel
theorem d_Mod_isCell_21 : decode b_Mod_isCell 21 = .ok (.goto 4, 3) := by decide +kernel
theorem d_Mod_isCell_24 : decode b_Mod_isCell 24 = .ok (.iconst 0, 1) := by decide +kernel
theorem d_Mod_isCell_25 : decode b_Mod_isCell 25 = .ok (.ireturn, 1) := by decide +kernel
theorem d_Mod_goTo_0 : decode b_Mod_goTo 0 = .ok (.iconst 0, 1) := by decide +kernel
theorem d_Mod_goTo_1 : decode b_Mod_goTo 1 = .ok (.istore_n 2, 1) := by decide +kernel
theorem d_Mod_goTo_2 : decode b_Mod_goTo 2 = .ok (.iconst 1, 1) := by decide +kernel
theorem d_Mod_goTo_3 : decode b_Mod_goTo 3 = .ok (.istore_n 3, 1) := by decide +kernel
theorem d_Mod_goTo_4 : decode b_Mod_goTo 4 = .ok (.iload_n 3, 1) := by decide +kernel
theorem d_Mod_goTo_5 : decode b_Mod_goTo 5 = .ok (.iload_n 1, 1) := by decide +kernel
theorem d_Mod_goTo_6 : decode b_Mod_goTo 6 = .ok (.if_icmp .ge 27, 3) := by decide +kernel
theorem d_Mod_goTo_9 : decode b_Mod_goTo 9 = .ok (.iload_n 2, 1) := by decide +kernel
theorem d_Mod_goTo_10 : decode b_Mod_goTo 10 = .ok (.ifCond .ne 15, 3) := by decide +kernel
theorem d_Mod_goTo_13 : decode b_Mod_goTo 13 = .ok (.aload_n 0, 1) := by decide +kernel
theorem d_Mod_goTo_14 : decode b_Mod_goTo 14 = .ok (.iload_n 3, 1) := by decide +kernel
theorem d_Mod_goTo_15 : decode b_Mod_goTo 15 = .ok (.invokevirtual 230, 3) := by decide +kernel
theorem d_Mod_goTo_18 : decode b_Mod_goTo 18 = .ok (.ifCond .eq 7, 3) := by decide +kernel
theorem d_Mod_goTo_21 : decode b_Mod_goTo 21 = .ok (.iconst 1, 1) := by decide +kernel
theorem d_Mod_goTo_22 : decode b_Mod_goTo 22 = .ok (.goto 4, 3) := by decide +kernel
theorem d_Mod_goTo_25 : decode b_Mod_goTo 25 = .ok (.iconst 0, 1) := by decide +kernel
theorem d_Mod_goTo_26 : decode b_Mod_goTo 26 = .ok (.istore_n 2, 1) := by decide +kernel
theorem d_Mod_goTo_27 : decode b_Mod_goTo 27 = .ok (.iinc 3 1, 3) := by decide +kernel
theorem d_Mod_goTo_30 : decode b_Mod_goTo 30 = .ok (.goto (-26), 3) := by decide +kernel
theorem d_Mod_goTo_33 : decode b_Mod_goTo 33 = .ok (.iload_n 2, 1) := by decide +kernel
theorem d_Mod_goTo_34 : decode b_Mod_goTo 34 = .ok (.ifCond .ne 10, 3) := by decide +kernel
theorem d_Mod_goTo_37 : decode b_Mod_goTo 37 = .ok (.aload_n 0, 1) := by decide +kernel
theorem d_Mod_goTo_38 : decode b_Mod_goTo 38 = .ok (.iload_n 1, 1) := by decide +kernel
theorem d_Mod_goTo_39 : decode b_Mod_goTo 39 = .ok (.invokevirtual 230, 3) := by decide +kernel
theorem d_Mod_goTo_42 : decode b_Mod_goTo 42 = .ok (.istore_n 3, 1) := by decide +kernel
theorem d_Mod_goTo_43 : decode b_Mod_goTo 43 = .ok (.return_, 1) := by decide +kernel
theorem d_Mod_goTo_44 : decode b_Mod_goTo 44 = .ok (.aload_n 0, 1) := by decide +kernel
theorem d_Mod_goTo_45 : decode b_Mod_goTo 45 = .ok (.iload_n 1, 1) := by decide +kernel
theorem d_Mod_goTo_46 : decode b_Mod_goTo 46 = .ok (.iconst 1, 1) := by decide +kernel
theorem d_Mod_goTo_47 : decode b_Mod_goTo 47 = .ok (.isub, 1) := by decide +kernel
theorem d_Mod_goTo_48 : decode b_Mod_goTo 48 = .ok (.invokevirtual 230, 3) := by decide +kernel
theorem d_Mod_goTo_51 : decode b_Mod_goTo 51 = .ok (.istore_n 3, 1) := by decide +kernel
theorem d_Mod_goTo_52 : decode b_Mod_goTo 52 = .ok (.iconst 0, 1) := by decide +kernel
theorem d_Mod_goTo_53 : decode b_Mod_goTo 53 = .ok (.istore 4, 2) := by decide +kernel
theorem d_Mod_goTo_55 : decode b_Mod_goTo 55 = .ok (.iload 4, 2) := by decide +kernel
theorem d_Mod_goTo_57 : decode b_Mod_goTo 57 = .ok (.bipush 20, 2) := by decide +kernel
theorem d_Mod_goTo_59 : decode b_Mod_goTo 59 = .ok (.if_icmp .ge 86, 3) := by decide +kernel
theorem d_Mod_goTo_62 : decode b_Mod_goTo 62 = .ok (.aload_n 0, 1) := by decide +kernel
theorem d_Mod_goTo_63 : decode b_Mod_goTo 63 = .ok (.getfield 67, 3) := by decide +kernel
theorem d_Mod_goTo_66 : decode b_Mod_goTo 66 = .ok (.iload 4, 2) := by decide +kernel
theorem d_Mod_goTo_68 : decode b_Mod_goTo 68 = .ok (.iaload, 1) := by decide +kernel
theorem d_Mod_goTo_69 : decode b_Mod_goTo 69 = .ok (.iconst 4, 1) := by decide +kernel
theorem d_Mod_goTo_70 : decode b_Mod_goTo 70 = .ok (.iand, 1) := by decide +kernel
theorem d_Mod_goTo_71 : decode b_Mod_goTo 71 = .ok (.ifCond .eq 7, 3) := by decide +kernel
theorem d_Mod_goTo_74 : decode b_Mod_goTo 74 = .ok (.iconst 1, 1) := by decide +kernel
theorem d_Mod_goTo_75 : decode b_Mod_goTo 75 = .ok (.goto 4, 3) := by decide +kernel
theorem d_Mod_goTo_78 : decode b_Mod_goTo 78 = .ok (.iconst 0, 1) := by decide +kernel
theorem d_Mod_goTo_79 : decode b_Mod_goTo 79 = .ok (.istore 5, 2) := by decide +kernel
theorem d_Mod_goTo_81 : decode b_Mod_goTo 81 = .ok (.aload_n 0, 1) := by decide +kernel
theorem d_Mod_goTo_82 : decode b_Mod_goTo 82 = .ok (.getfield 58, 3) := by decide +kernel
theorem d_Mod_goTo_85 : decode b_Mod_goTo 85 = .ok (.iload 4, 2) := by decide +kernel
theorem d_Mod_goTo_87 : decode b_Mod_goTo 87 = .ok (.iload 5, 2) := by decide +kernel
theorem d_Mod_goTo_89 : decode b_Mod_goTo 89 = .ok (.ifCond .eq 13, 3) := by decide +kernel
theorem d_Mod_goTo_92 : decode b_Mod_goTo 92 = .ok (.aload_n 0, 1) := by decide +kernel
theorem d_Mod_goTo_93 : decode b_Mod_goTo 93 = .ok (.getfield 58, 3) := by decide +kernel
theorem d_Mod_goTo_96 : decode b_Mod_goTo 96 = .ok (.iload 4, 2) := by decide +kernel
theorem d_Mod_goTo_98 : decode b_Mod_goTo 98 = .ok (.iaload, 1) := by decide +kernel
theorem d_Mod_goTo_99 : decode b_Mod_goTo 99 = .ok (.goto 5, 3) := by decide +kernel
theorem d_Mod_goTo_102 : decode b_Mod_goTo 102 = .ok (.bipush 32, 2) := by decide +kernel
theorem d_Mod_goTo_104 : decode b_Mod_goTo 104 = .ok (.iastore, 1) := by decide +kernel
theorem d_Mod_goTo_105 : decode b_Mod_goTo 105 = .ok (.aload_n 0, 1) := by decide +kernel
theorem d_Mod_goTo_106 : decode b_Mod_goTo 106 = .ok (.getfield 67, 3) := by decide +kernel
theorem d_Mod_goTo_109 : decode b_Mod_goTo 109 = .ok (.iload 4, 2) := by decide +kernel
theorem d_Mod_goTo_111 : decode b_Mod_goTo 111 = .ok (.iload 5, 2) := by decide +kernel
theorem d_Mod_goTo_113 : decode b_Mod_goTo 113 = .ok (.ifCond .eq 15, 3) := by decide +kernel
theorem d_Mod_goTo_116 : decode b_Mod_goTo 116 = .ok (.aload_n 0, 1) := by decide +kernel
theorem d_Mod_goTo_117 : decode b_Mod_goTo 117 = .ok (.getfield 67, 3) := by decide +kernel
theorem d_Mod_goTo_120 : decode b_Mod_goTo 120 = .ok (.iload 4, 2) := by decide +kernel
theorem d_Mod_goTo_122 : decode b_Mod_goTo 122 = .ok (.iaload, 1) := by decide +kernel
theorem d_Mod_goTo_123 : decode b_Mod_goTo 123 = .ok (.iconst 4, 1) := by decide +kernel
theorem d_Mod_goTo_124 : decode b_Mod_goTo 124 = .ok (.iadd, 1) := by decide +kernel
theorem d_Mod_goTo_125 : decode b_Mod_goTo 125 = .ok (.goto 13, 3) := by decide +kernel
theorem d_Mod_goTo_128 : decode b_Mod_goTo 128 = .ok (.aload_n 0, 1) := by decide +kernel
theorem d_Mod_goTo_129 : decode b_Mod_goTo 129 = .ok (.getfield 67, 3) := by decide +kernel
theorem d_Mod_goTo_132 : decode b_Mod_goTo 132 = .ok (.iload 4, 2) := by decide +kernel
theorem d_Mod_goTo_134 : decode b_Mod_goTo 134 = .ok (.iaload, 1) := by decide +kernel
theorem d_Mod_goTo_135 : decode b_Mod_goTo 135 = .ok (.bipush 64, 2) := by decide +kernel
theorem d_Mod_goTo_137 : decode b_Mod_goTo 137 = .ok (.iand, 1) := by decide +kernel
theorem d_Mod_goTo_138 : decode b_Mod_goTo 138 = .ok (.iastore, 1) := by decide +kernel
theorem d_Mod_goTo_139 : decode b_Mod_goTo 139 = .ok (.iinc 4 1, 3) := by decide +kernel
theorem d_Mod_goTo_142 : decode b_Mod_goTo 142 = .ok (.goto (-87), 3) := by decide +kernel
theorem d_Mod_goTo_145 : decode b_Mod_goTo 145 = .ok (.return_, 1) := by decide +kernel
theorem d_Mod_go_0 : decode b_Mod_go 0 = .ok (.aload_n 0, 1) := by decide +kernel
theorem d_Mod_go_1 : decode b_Mod_go 1 = .ok (.iload_n 1, 1) := by decide +kernel
theorem d_Mod_go_2 : decode b_Mod_go 2 = .ok (.invokevirtual 214, 3) := by decide +kernel
theorem d_Mod_go_5 : decode b_Mod_go 5 = .ok (.aload_n 0, 1) := by decide +kernel
theorem d_Mod_go_6 : decode b_Mod_go 6 = .ok (.invokevirtual 217, 3) := by decide +kernel
theorem d_Mod_go_9 : decode b_Mod_go 9 = .ok (.aload_n 0, 1) := by decide +kernel
theorem d_Mod_go_10 : decode b_Mod_go 10 = .ok (.invokevirtual 154, 3) := by decide +kernel
theorem d_Mod_go_13 : decode b_Mod_go 13 = .ok (.istore_n 2, 1) := by decide +kernel
theorem d_Mod_go_14 : decode b_Mod_go 14 = .ok (.iload_n 2, 1) := by decide +kernel
theorem d_Mod_go_15 : decode b_Mod_go 15 = .ok (.ifCond .ge 7, 3) := by decide +kernel
theorem d_Mod_go_18 : decode b_Mod_go 18 = .ok (.iconst 0, 1) := by decide +kernel
theorem d_Mod_go_19 : decode b_Mod_go 19 = .ok (.goto 9, 3) := by decide +kernel
theorem d_Mod_go_22 : decode b_Mod_go 22 = .ok (.aload_n 0, 1) := by decide +kernel
theorem d_Mod_go_23 : decode b_Mod_go 23 = .ok (.getfield 20, 3) := by decide +kernel
theorem d_Mod_go_26 : decode b_Mod_go 26 = .ok (.iload_n 2, 1) := by decide +kernel
theorem d_Mod_go_27 : decode b_Mod_go 27 = .ok (.iaload, 1) := by decide +kernel
theorem d_Mod_go_28 : decode b_Mod_go 28 = .ok (.istore_n 3, 1) := by decide +kernel
theorem d_Mod_go_29 : decode b_Mod_go 29 = .ok (.aload_n 0, 1) := by decide +kernel
theorem d_Mod_go_30 : decode b_Mod_go 30 = .ok (.iload_n 1, 1) := by decide +kernel
theorem d_Mod_go_31 : decode b_Mod_go 31 = .ok (.ifCond .le 13, 3) := by decide +kernel
theorem d_Mod_go_34 : decode b_Mod_go 34 = .ok (.iload_n 1, 1) := by decide +kernel
theorem d_Mod_go_35 : decode b_Mod_go 35 = .ok (.bipush 7, 2) := by decide +kernel
theorem d_Mod_go_37 : decode b_Mod_go 37 = .ok (.if_icmp .ge 7, 3) := by decide +kernel
theorem d_Mod_go_40 : decode b_Mod_go 40 = .ok (.iconst 1, 1) := by decide +kernel
theorem d_Mod_go_41 : decode b_Mod_go 41 = .ok (.goto 4, 3) := by decide +kernel
theorem d_Mod_go_44 : decode b_Mod_go 44 = .ok (.iconst 0, 1) := by decide +kernel
theorem d_Mod_go_45 : decode b_Mod_go 45 = .ok (.putfield 204, 3) := by decide +kernel
theorem d_Mod_go_48 : decode b_Mod_go 48 = .ok (.iconst 0, 1) := by decide +kernel
theorem d_Mod_go_49 : decode b_Mod_go 49 = .ok (.istore 4, 2) := by decide +kernel
theorem d_Mod_go_51 : decode b_Mod_go 51 = .ok (.iconst 0, 1) := by decide +kernel
theorem d_Mod_go_52 : decode b_Mod_go 52 = .ok (.istore 5, 2) := by decide +kernel
theorem d_Mod_go_54 : decode b_Mod_go 54 = .ok (.iload 5, 2) := by decide +kernel
theorem d_Mod_go_56 : decode b_Mod_go 56 = .ok (.bipush 20, 2) := by decide +kernel
theorem d_Mod_go_58 : decode b_Mod_go 58 = .ok (.if_icmp .ge 134, 3) := by decide +kernel
theorem d_Mod_go_61 : decode b_Mod_go 61 = .ok (.aload_n 0, 1) := by decide +kernel
theorem d_Mod_go_62 : decode b_Mod_go 62 = .ok (.getfield 52, 3) := by decide +kernel
theorem d_Mod_go_65 : decode b_Mod_go 65 = .ok (.iload 5, 2) := by decide +kernel
theorem d_Mod_go_67 : decode b_Mod_go 67 = .ok (.iaload, 1) := by decide +kernel
theorem d_Mod_go_68 : decode b_Mod_go 68 = .ok (.istore 6, 2) := by decide +kernel
theorem d_Mod_go_70 : decode b_Mod_go 70 = .ok (.iload 6, 2) := by decide +kernel
theorem d_Mod_go_72 : decode b_Mod_go 72 = .ok (.bipush 32, 2) := by decide +kernel
theorem d_Mod_go_74 : decode b_Mod_go 74 = .ok (.if_icmp .lt 34, 3) := by decide +kernel
theorem d_Mod_go_77 : decode b_Mod_go 77 = .ok (.aload_n 0, 1) := by decide +kernel
theorem d_Mod_go_78 : decode b_Mod_go 78 = .ok (.iload 5, 2) := by decide +kernel
theorem d_Mod_go_80 : decode b_Mod_go 80 = .ok (.iload 6, 2) := by decide +kernel
theorem d_Mod_go_82 : decode b_Mod_go 82 = .ok (.iload_n 3, 1) := by decide +kernel
theorem d_Mod_go_83 : decode b_Mod_go 83 = .ok (.invokevirtual 220, 3) := by decide +kernel
theorem d_Mod_go_86 : decode b_Mod_go 86 = .ok (.iload 4, 2) := by decide +kernel
theorem d_Mod_go_88 : decode b_Mod_go 88 = .ok (.ifCond .ne 10, 3) := by decide +kernel
theorem d_Mod_go_91 : decode b_Mod_go 91 = .ok (.aload_n 0, 1) := by decide +kernel
theorem d_Mod_go_92 : decode b_Mod_go 92 = .ok (.getfield 179, 3) := by decide +kernel
theorem d_Mod_go_95 : decode b_Mod_go 95 = .ok (.ifCond .eq 7, 3) := by decide +kernel
theorem d_Mod_go_98 : decode b_Mod_go 98 = .ok (.iconst 1, 1) := by decide +kernel
theorem d_Mod_go_99 : decode b_Mod_go 99 = .ok (.goto 4, 3) := by decide +kernel
theorem d_Mod_go_102 : decode b_Mod_go 102 = .ok (.iconst 0, 1) := by decide +kernel
theorem d_Mod_go_103 : decode b_Mod_go 103 = .ok (.istore 4, 2) := by decide +kernel
theorem d_Mod_go_105 : decode b_Mod_go 105 = .ok (.goto 81, 3) := by decide +kernel
theorem d_Mod_go_108 : decode b_Mod_go 108 = .ok (.aload_n 0, 1) := by decide +kernel
theorem d_Mod_go_109 : decode b_Mod_go 109 = .ok (.iload 6, 2) := by decide +kernel
theorem d_Mod_go_111 : decode b_Mod_go 111 = .ok (.invokevirtual 224, 3) := by decide +kernel
theorem d_Mod_go_114 : decode b_Mod_go 114 = .ok (.aload_n 0, 1) := by decide +kernel
theorem d_Mod_go_115 : decode b_Mod_go 115 = .ok (.getfield 185, 3) := by decide +kernel
theorem d_Mod_go_118 : decode b_Mod_go 118 = .ok (.ifCond .eq 14, 3) := by decide +kernel
theorem d_Mod_go_121 : decode b_Mod_go 121 = .ok (.aload_n 0, 1) := by decide +kernel
theorem d_Mod_go_122 : decode b_Mod_go 122 = .ok (.getfield 167, 3) := by decide +kernel
theorem d_Mod_go_125 : decode b_Mod_go 125 = .ok (.ifCond .eq 7, 3) := by decide +kernel
theorem d_Mod_go_128 : decode b_Mod_go 128 = .ok (.iconst 1, 1) := by decide +kernel
theorem d_Mod_go_129 : decode b_Mod_go 129 = .ok (.goto 4, 3) := by decide +kernel
theorem d_Mod_go_132 : decode b_Mod_go 132 = .ok (.iconst 0, 1) := by decide +kernel
theorem d_Mod_go_133 : decode b_Mod_go 133 = .ok (.istore 7, 2) := by decide +kernel
theorem d_Mod_go_135 : decode b_Mod_go 135 = .ok (.aload_n 0, 1) := by decide +kernel
theorem d_Mod_go_136 : decode b_Mod_go 136 = .ok (.iload 5, 2) := by decide +kernel
theorem d_Mod_go_138 : decode b_Mod_go 138 = .ok (.iload 7, 2) := by decide +kernel
theorem d_Mod_go_140 : decode b_Mod_go 140 = .ok (.ifCond .eq 10, 3) := by decide +kernel
theorem d_Mod_go_143 : decode b_Mod_go 143 = .ok (.aload_n 0, 1) := by decide +kernel
theorem d_Mod_go_144 : decode b_Mod_go 144 = .ok (.getfield 191, 3) := by decide +kernel
theorem d_Mod_go_147 : decode b_Mod_go 147 = .ok (.goto 5, 3) := by decide +kernel
theorem d_Mod_go_150 : decode b_Mod_go 150 = .ok (.bipush 32, 2) := by decide +kernel
theorem d_Mod_go_152 : decode b_Mod_go 152 = .ok (.iload 7, 2) := by decide +kernel
theorem d_Mod_go_154 : decode b_Mod_go 154 = .ok (.aload_n 0, 1) := by decide +kernel
theorem d_Mod_go_155 : decode b_Mod_go 155 = .ok (.getfield 194, 3) := by decide +kernel
theorem d_Mod_go_158 : decode b_Mod_go 158 = .ok (.invokevirtual 207, 3) := by decide +kernel
theorem d_Mod_go_161 : decode b_Mod_go 161 = .ok (.iload 4, 2) := by decide +kernel
theorem d_Mod_go_163 : decode b_Mod_go 163 = .ok (.ifCond .ne 10, 3) := by decide +kernel
theorem d_Mod_go_166 : decode b_Mod_go 166 = .ok (.aload_n 0, 1) := by decide +kernel
theorem d_Mod_go_167 : decode b_Mod_go 167 = .ok (.getfield 179, 3) := by decide +kernel
theorem d_Mod_go_170 : decode b_Mod_go 170 = .ok (.ifCond .eq 7, 3) := by decide +kernel
theorem d_Mod_go_173 : decode b_Mod_go 173 = .ok (.iconst 1, 1) := by decide +kernel
theorem d_Mod_go_174 : decode b_Mod_go 174 = .ok (.goto 4, 3) := by decide +kernel
theorem d_Mod_go_177 : decode b_Mod_go 177 = .ok (.iconst 0, 1) := by decide +kernel
theorem d_Mod_go_178 : decode b_Mod_go 178 = .ok (.istore 4, 2) := by decide +kernel
theorem d_Mod_go_180 : decode b_Mod_go 180 = .ok (.aload_n 0, 1) := by decide +kernel
theorem d_Mod_go_181 : decode b_Mod_go 181 = .ok (.iload 6, 2) := by decide +kernel
theorem d_Mod_go_183 : decode b_Mod_go 183 = .ok (.invokevirtual 227, 3) := by decide +kernel
theorem d_Mod_go_186 : decode b_Mod_go 186 = .ok (.iinc 5 1, 3) := by decide +kernel
theorem d_Mod_go_189 : decode b_Mod_go 189 = .ok (.goto (-135), 3) := by decide +kernel
theorem d_Mod_go_192 : decode b_Mod_go 192 = .ok (.iload 4, 2) := by decide +kernel
theorem d_Mod_go_194 : decode b_Mod_go 194 = .ok (.ireturn, 1) := by decide +kernel
theorem d_Mod_fetch_0 : decode b_Mod_fetch 0 = .ok (.aload_n 0, 1) := by decide +kernel
theorem d_Mod_fetch_1 : decode b_Mod_fetch 1 = .ok (.invokevirtual 154, 3) := by decide +kernel
theorem d_Mod_fetch_4 : decode b_Mod_fetch 4 = .ok (.istore_n 2, 1) := by decide +kernel
theorem d_Mod_fetch_5 : decode b_Mod_fetch 5 = .ok (.iconst 0, 1) := by decide +kernel
theorem d_Mod_fetch_6 : decode b_Mod_fetch 6 = .ok (.istore_n 3, 1) := by decide +kernel
theorem d_Mod_fetch_7 : decode b_Mod_fetch 7 = .ok (.iload_n 3, 1) := by decide +kernel
theorem d_Mod_fetch_8 : decode b_Mod_fetch 8 = .ok (.bipush 20, 2) := by decide +kernel
theorem d_Mod_fetch_10 : decode b_Mod_fetch 10 = .ok (.if_icmp .ge 85, 3) := by decide +kernel
theorem d_Mod_fetch_13 : decode b_Mod_fetch 13 = .ok (.aload_n 0, 1) := by decide +kernel
theorem d_Mod_fetch_14 : decode b_Mod_fetch 14 = .ok (.getfield 52, 3) := by decide +kernel
theorem d_Mod_fetch_17 : decode b_Mod_fetch 17 = .ok (.iload_n 3, 1) := by decide +kernel
theorem d_Mod_fetch_18 : decode b_Mod_fetch 18 = .ok (.iload_n 2, 1) := by decide +kernel
theorem d_Mod_fetch_19 : decode b_Mod_fetch 19 = .ok (.ifCond .lt 23, 3) := by decide +kernel
theorem d_Mod_fetch_22 : decode b_Mod_fetch 22 = .ok (.aload_n 0, 1) := by decide +kernel
theorem d_Mod_fetch_23 : decode b_Mod_fetch 23 = .ok (.getfield 29, 3) := by decide +kernel
theorem d_Mod_fetch_26 : decode b_Mod_fetch 26 = .ok (.sipush 160, 3) := by decide +kernel
theorem d_Mod_fetch_29 : decode b_Mod_fetch 29 = .ok (.iload_n 2, 1) := by decide +kernel
theorem d_Mod_fetch_30 : decode b_Mod_fetch 30 = .ok (.imul, 1) := by decide +kernel
theorem d_Mod_fetch_31 : decode b_Mod_fetch 31 = .ok (.bipush 20, 2) := by decide +kernel
theorem d_Mod_fetch_33 : decode b_Mod_fetch 33 = .ok (.iload_n 1, 1) := by decide +kernel
theorem d_Mod_fetch_34 : decode b_Mod_fetch 34 = .ok (.imul, 1) := by decide +kernel
theorem d_Mod_fetch_35 : decode b_Mod_fetch 35 = .ok (.iadd, 1) := by decide +kernel
theorem d_Mod_fetch_36 : decode b_Mod_fetch 36 = .ok (.iload_n 3, 1) := by decide +kernel
theorem d_Mod_fetch_37 : decode b_Mod_fetch 37 = .ok (.iadd, 1) := by decide +kernel
theorem d_Mod_fetch_38 : decode b_Mod_fetch 38 = .ok (.iaload, 1) := by decide +kernel
theorem d_Mod_fetch_39 : decode b_Mod_fetch 39 = .ok (.goto 18, 3) := by decide +kernel
theorem d_Mod_fetch_42 : decode b_Mod_fetch 42 = .ok (.iload_n 1, 1) := by decide +kernel
theorem d_Mod_fetch_43 : decode b_Mod_fetch 43 = .ok (.ifCond .ne 12, 3) := by decide +kernel
theorem d_Mod_fetch_46 : decode b_Mod_fetch 46 = .ok (.aload_n 0, 1) := by decide +kernel
theorem d_Mod_fetch_47 : decode b_Mod_fetch 47 = .ok (.getfield 35, 3) := by decide +kernel
theorem d_Mod_fetch_50 : decode b_Mod_fetch 50 = .ok (.iload_n 3, 1) := by decide +kernel
theorem d_Mod_fetch_51 : decode b_Mod_fetch 51 = .ok (.iaload, 1) := by decide +kernel
theorem d_Mod_fetch_52 : decode b_Mod_fetch 52 = .ok (.goto 5, 3) := by decide +kernel
theorem d_Mod_fetch_55 : decode b_Mod_fetch 55 = .ok (.bipush 32, 2) := by decide +kernel
theorem d_Mod_fetch_57 : decode b_Mod_fetch 57 = .ok (.iastore, 1) := by decide +kernel
theorem d_Mod_fetch_58 : decode b_Mod_fetch 58 = .ok (.aload_n 0, 1) := by decide +kernel
theorem d_Mod_fetch_59 : decode b_Mod_fetch 59 = .ok (.getfield 55, 3) := by decide +kernel
theorem d_Mod_fetch_62 : decode b_Mod_fetch 62 = .ok (.iload_n 3, 1) := by decide +kernel
theorem d_Mod_fetch_63 : decode b_Mod_fetch 63 = .ok (.iload_n 2, 1) := by decide +kernel
theorem d_Mod_fetch_64 : decode b_Mod_fetch 64 = .ok (.ifCond .lt 23, 3) := by decide +kernel
theorem d_Mod_fetch_67 : decode b_Mod_fetch 67 = .ok (.aload_n 0, 1) := by decide +kernel
theorem d_Mod_fetch_68 : decode b_Mod_fetch 68 = .ok (.getfield 32, 3) := by decide +kernel
theorem d_Mod_fetch_71 : decode b_Mod_fetch 71 = .ok (.sipush 160, 3) := by decide +kernel
theorem d_Mod_fetch_74 : decode b_Mod_fetch 74 = .ok (.iload_n 2, 1) := by decide +kernel
theorem d_Mod_fetch_75 : decode b_Mod_fetch 75 = .ok (.imul, 1) := by decide +kernel
theorem d_Mod_fetch_76 : decode b_Mod_fetch 76 = .ok (.bipush 20, 2) := by decide +kernel
theorem d_Mod_fetch_78 : decode b_Mod_fetch 78 = .ok (.iload_n 1, 1) := by decide +kernel
theorem d_Mod_fetch_79 : decode b_Mod_fetch 79 = .ok (.imul, 1) := by decide +kernel
theorem d_Mod_fetch_80 : decode b_Mod_fetch 80 = .ok (.iadd, 1) := by decide +kernel
theorem d_Mod_fetch_81 : decode b_Mod_fetch 81 = .ok (.iload_n 3, 1) := by decide +kernel
theorem d_Mod_fetch_82 : decode b_Mod_fetch 82 = .ok (.iadd, 1) := by decide +kernel
theorem d_Mod_fetch_83 : decode b_Mod_fetch 83 = .ok (.iaload, 1) := by decide +kernel
theorem d_Mod_fetch_84 : decode b_Mod_fetch 84 = .ok (.goto 4, 3) := by decide +kernel
theorem d_Mod_fetch_87 : decode b_Mod_fetch 87 = .ok (.iconst 0, 1) := by decide +kernel
theorem d_Mod_fetch_88 : decode b_Mod_fetch 88 = .ok (.iastore, 1) := by decide +kernel
theorem d_Mod_fetch_89 : decode b_Mod_fetch 89 = .ok (.iinc 3 1, 3) := by decide +kernel
theorem d_Mod_fetch_92 : decode b_Mod_fetch 92 = .ok (.goto (-85), 3) := by decide +kernel
theorem d_Mod_fetch_95 : decode b_Mod_fetch 95 = .ok (.iload_n 1, 1) := by decide +kernel
theorem d_Mod_fetch_96 : decode b_Mod_fetch 96 = .ok (.ifCond .ne 121, 3) := by decide +kernel
theorem d_Mod_fetch_99 : decode b_Mod_fetch 99 = .ok (.aload_n 0, 1) := by decide +kernel
theorem d_Mod_fetch_100 : decode b_Mod_fetch 100 = .ok (.getfield 52, 3) := by decide +kernel
theorem d_Mod_fetch_103 : decode b_Mod_fetch 103 = .ok (.iconst 0, 1) := by decide +kernel
theorem d_Mod_fetch_104 : decode b_Mod_fetch 104 = .ok (.bipush 80, 2) := by decide +kernel
theorem d_Mod_fetch_106 : decode b_Mod_fetch 106 = .ok (.iastore, 1) := by decide +kernel
theorem d_Mod_fetch_107 : decode b_Mod_fetch 107 = .ok (.aload_n 0, 1) := by decide +kernel
theorem d_Mod_fetch_108 : decode b_Mod_fetch 108 = .ok (.getfield 52, 3) := by decide +kernel
theorem d_Mod_fetch_111 : decode b_Mod_fetch 111 = .ok (.iconst 1, 1) := by decide +kernel
theorem d_Mod_fetch_112 : decode b_Mod_fetch 112 = .ok (.aload_n 0, 1) := by decide +kernel
theorem d_Mod_fetch_113 : decode b_Mod_fetch 113 = .ok (.getfield 44, 3) := by decide +kernel
theorem d_Mod_fetch_116 : decode b_Mod_fetch 116 = .ok (.sipush 256, 3) := by decide +kernel
theorem d_Mod_fetch_119 : decode b_Mod_fetch 119 = .ok (.if_icmp .ge 8, 3) := by decide +kernel
theorem d_Mod_fetch_122 : decode b_Mod_fetch 122 = .ok (.bipush 56, 2) := by decide +kernel
theorem d_Mod_fetch_124 : decode b_Mod_fetch 124 = .ok (.goto 14, 3) := by decide +kernel
theorem d_Mod_fetch_127 : decode b_Mod_fetch 127 = .ok (.bipush 48, 2) := by decide +kernel
theorem d_Mod_fetch_129 : decode b_Mod_fetch 129 = .ok (.aload_n 0, 1) := by decide +kernel
theorem d_Mod_fetch_130 : decode b_Mod_fetch 130 = .ok (.getfield 44, 3) := by decide +kernel
theorem d_Mod_fetch_133 : decode b_Mod_fetch 133 = .ok (.sipush 256, 3) := by decide +kernel
theorem d_Mod_fetch_136 : decode b_Mod_fetch 136 = .ok (.idiv, 1) := by decide +kernel
theorem d_Mod_fetch_137 : decode b_Mod_fetch 137 = .ok (.iadd, 1) := by decide +kernel
theorem d_Mod_fetch_138 : decode b_Mod_fetch 138 = .ok (.iastore, 1) := by decide +kernel
theorem d_Mod_fetch_139 : decode b_Mod_fetch 139 = .ok (.aload_n 0, 1) := by decide +kernel
theorem d_Mod_fetch_140 : decode b_Mod_fetch 140 = .ok (.getfield 52, 3) := by decide +kernel
theorem d_Mod_fetch_143 : decode b_Mod_fetch 143 = .ok (.iconst 2, 1) := by decide +kernel
theorem d_Mod_fetch_144 : decode b_Mod_fetch 144 = .ok (.aload_n 0, 1) := by decide +kernel
theorem d_Mod_fetch_145 : decode b_Mod_fetch 145 = .ok (.getfield 44, 3) := by decide +kernel
theorem d_Mod_fetch_148 : decode b_Mod_fetch 148 = .ok (.bipush 16, 2) := by decide +kernel
theorem d_Mod_fetch_150 : decode b_Mod_fetch 150 = .ok (.idiv, 1) := by decide +kernel
theorem d_Mod_fetch_151 : decode b_Mod_fetch 151 = .ok (.bipush 16, 2) := by decide +kernel
theorem d_Mod_fetch_153 : decode b_Mod_fetch 153 = .ok (.irem, 1) := by decide +kernel
theorem d_Mod_fetch_154 : decode b_Mod_fetch 154 = .ok (.invokestatic 158, 3) := by decide +kernel
theorem d_Mod_fetch_157 : decode b_Mod_fetch 157 = .ok (.iastore, 1) := by decide +kernel
theorem d_Mod_fetch_158 : decode b_Mod_fetch 158 = .ok (.aload_n 0, 1) := by decide +kernel
theorem d_Mod_fetch_159 : decode b_Mod_fetch 159 = .ok (.getfield 52, 3) := by decide +kernel
theorem d_Mod_fetch_162 : decode b_Mod_fetch 162 = .ok (.iconst 3, 1) := by decide +kernel
theorem d_Mod_fetch_163 : decode b_Mod_fetch 163 = .ok (.aload_n 0, 1) := by decide +kernel
theorem d_Mod_fetch_164 : decode b_Mod_fetch 164 = .ok (.getfield 44, 3) := by decide +kernel
theorem d_Mod_fetch_167 : decode b_Mod_fetch 167 = .ok (.bipush 16, 2) := by decide +kernel
theorem d_Mod_fetch_169 : decode b_Mod_fetch 169 = .ok (.irem, 1) := by decide +kernel
theorem d_Mod_fetch_170 : decode b_Mod_fetch 170 = .ok (.invokestatic 158, 3) := by decide +kernel
theorem d_Mod_fetch_173 : decode b_Mod_fetch 173 = .ok (.iastore, 1) := by decide +kernel
theorem d_Mod_fetch_174 : decode b_Mod_fetch 174 = .ok (.iconst 0, 1) := by decide +kernel
theorem d_Mod_fetch_175 : decode b_Mod_fetch 175 = .ok (.istore_n 3, 1) := by decide +kernel
theorem d_Mod_fetch_176 : decode b_Mod_fetch 176 = .ok (.iload_n 3, 1) := by decide +kernel
theorem d_Mod_fetch_177 : decode b_Mod_fetch 177 = .ok (.bipush 8, 2) := by decide +kernel
theorem d_Mod_fetch_179 : decode b_Mod_fetch 179 = .ok (.if_icmp .ge 38, 3) := by decide +kernel
theorem d_Mod_fetch_182 : decode b_Mod_fetch 182 = .ok (.aload_n 0, 1) := by decide +kernel
theorem d_Mod_fetch_183 : decode b_Mod_fetch 183 = .ok (.getfield 52, 3) := by decide +kernel
theorem d_Mod_fetch_186 : decode b_Mod_fetch 186 = .ok (.iload_n 3, 1) := by decide +kernel
theorem d_Mod_fetch_187 : decode b_Mod_fetch 187 = .ok (.iload_n 3, 1) := by decide +kernel
theorem d_Mod_fetch_188 : decode b_Mod_fetch 188 = .ok (.iconst 4, 1) := by decide +kernel
theorem d_Mod_fetch_189 : decode b_Mod_fetch 189 = .ok (.if_icmp .ge 12, 3) := by decide +kernel
theorem d_Mod_fetch_192 : decode b_Mod_fetch 192 = .ok (.aload_n 0, 1) := by decide +kernel
theorem d_Mod_fetch_193 : decode b_Mod_fetch 193 = .ok (.getfield 52, 3) := by decide +kernel
theorem d_Mod_fetch_196 : decode b_Mod_fetch 196 = .ok (.iload_n 3, 1) := by decide +kernel
theorem d_Mod_fetch_197 : decode b_Mod_fetch 197 = .ok (.iaload, 1) := by decide +kernel
theorem d_Mod_fetch_198 : decode b_Mod_fetch 198 = .ok (.goto 5, 3) := by decide +kernel
theorem d_Mod_fetch_201 : decode b_Mod_fetch 201 = .ok (.bipush 32, 2) := by decide +kernel
theorem d_Mod_fetch_203 : decode b_Mod_fetch 203 = .ok (.iastore, 1) := by decide +kernel
theorem d_Mod_fetch_204 : decode b_Mod_fetch 204 = .ok (.aload_n 0, 1) := by decide +kernel
theorem d_Mod_fetch_205 : decode b_Mod_fetch 205 = .ok (.getfield 55, 3) := by decide +kernel
theorem d_Mod_fetch_208 : decode b_Mod_fetch 208 = .ok (.iload_n 3, 1) := by decide +kernel
theorem d_Mod_fetch_209 : decode b_Mod_fetch 209 = .ok (.iconst 0, 1) := by decide +kernel
theorem d_Mod_fetch_210 : decode b_Mod_fetch 210 = .ok (.iastore, 1) := by decide +kernel
theorem d_Mod_fetch_211 : decode b_Mod_fetch 211 = .ok (.iinc 3 1, 3) := by decide +kernel
theorem d_Mod_fetch_214 : decode b_Mod_fetch 214 = .ok (.goto (-38), 3) := by decide +kernel
theorem d_Mod_fetch_217 : decode b_Mod_fetch 217 = .ok (.return_, 1) := by decide +kernel
theorem d_Mod_sign_0 : decode b_Mod_sign 0 = .ok (.iload_n 0, 1) := by decide +kernel
theorem d_Mod_sign_1 : decode b_Mod_sign 1 = .ok (.bipush 10, 2) := by decide +kernel
theorem d_Mod_sign_3 : decode b_Mod_sign 3 = .ok (.if_icmp .ge 10, 3) := by decide +kernel
theorem d_Mod_sign_6 : decode b_Mod_sign 6 = .ok (.bipush 48, 2) := by decide +kernel
theorem d_Mod_sign_8 : decode b_Mod_sign 8 = .ok (.iload_n 0, 1) := by decide +kernel
theorem d_Mod_sign_9 : decode b_Mod_sign 9 = .ok (.iadd, 1) := by decide +kernel
theorem d_Mod_sign_10 : decode b_Mod_sign 10 = .ok (.goto 7, 3) := by decide +kernel
theorem d_Mod_sign_13 : decode b_Mod_sign 13 = .ok (.bipush 55, 2) := by decide +kernel
theorem d_Mod_sign_15 : decode b_Mod_sign 15 = .ok (.iload_n 0, 1) := by decide +kernel
theorem d_Mod_sign_16 : decode b_Mod_sign 16 = .ok (.iadd, 1) := by decide +kernel
theorem d_Mod_sign_17 : decode b_Mod_sign 17 = .ok (.ireturn, 1) := by decide +kernel
theorem d_Mod_begin_0 : decode b_Mod_begin 0 = .ok (.aload_n 0, 1) := by decide +kernel
theorem d_Mod_begin_1 : decode b_Mod_begin 1 = .ok (.bipush 7, 2) := by decide +kernel
theorem d_Mod_begin_3 : decode b_Mod_begin 3 = .ok (.putfield 161, 3) := by decide +kernel
theorem d_Mod_begin_6 : decode b_Mod_begin 6 = .ok (.aload_n 0, 1) := by decide +kernel
theorem d_Mod_begin_7 : decode b_Mod_begin 7 = .ok (.iconst 0, 1) := by decide +kernel
theorem d_Mod_begin_8 : decode b_Mod_begin 8 = .ok (.putfield 164, 3) := by decide +kernel
theorem d_Mod_begin_11 : decode b_Mod_begin 11 = .ok (.aload_n 0, 1) := by decide +kernel
theorem d_Mod_begin_12 : decode b_Mod_begin 12 = .ok (.iconst 0, 1) := by decide +kernel
theorem d_Mod_begin_13 : decode b_Mod_begin 13 = .ok (.putfield 167, 3) := by decide +kernel
theorem d_Mod_begin_16 : decode b_Mod_begin 16 = .ok (.aload_n 0, 1) := by decide +kernel
theorem d_Mod_begin_17 : decode b_Mod_begin 17 = .ok (.iconst 0, 1) := by decide +kernel
theorem d_Mod_begin_18 : decode b_Mod_begin 18 = .ok (.putfield 170, 3) := by decide +kernel
theorem d_Mod_begin_21 : decode b_Mod_begin 21 = .ok (.aload_n 0, 1) := by decide +kernel
theorem d_Mod_begin_22 : decode b_Mod_begin 22 = .ok (.iconst 0, 1) := by decide +kernel
theorem d_Mod_begin_23 : decode b_Mod_begin 23 = .ok (.putfield 173, 3) := by decide +kernel
theorem d_Mod_begin_26 : decode b_Mod_begin 26 = .ok (.aload_n 0, 1) := by decide +kernel
theorem d_Mod_begin_27 : decode b_Mod_begin 27 = .ok (.iconst 0, 1) := by decide +kernel
theorem d_Mod_begin_28 : decode b_Mod_begin 28 = .ok (.putfield 176, 3) := by decide +kernel
theorem d_Mod_begin_31 : decode b_Mod_begin 31 = .ok (.aload_n 0, 1) := by decide +kernel
theorem d_Mod_begin_32 : decode b_Mod_begin 32 = .ok (.iconst 0, 1) := by decide +kernel
theorem d_Mod_begin_33 : decode b_Mod_begin 33 = .ok (.putfield 179, 3) := by decide +kernel
theorem d_Mod_begin_36 : decode b_Mod_begin 36 = .ok (.aload_n 0, 1) := by decide +kernel
theorem d_Mod_begin_37 : decode b_Mod_begin 37 = .ok (.iconst 0, 1) := by decide +kernel
theorem d_Mod_begin_38 : decode b_Mod_begin 38 = .ok (.putfield 182, 3) := by decide +kernel
theorem d_Mod_begin_41 : decode b_Mod_begin 41 = .ok (.aload_n 0, 1) := by decide +kernel
theorem d_Mod_begin_42 : decode b_Mod_begin 42 = .ok (.iconst 0, 1) := by decide +kernel
theorem d_Mod_begin_43 : decode b_Mod_begin 43 = .ok (.putfield 185, 3) := by decide +kernel
theorem d_Mod_begin_46 : decode b_Mod_begin 46 = .ok (.aload_n 0, 1) := by decide +kernel
theorem d_Mod_begin_47 : decode b_Mod_begin 47 = .ok (.invokevirtual 188, 3) := by decide +kernel
theorem d_Mod_begin_50 : decode b_Mod_begin 50 = .ok (.return_, 1) := by decide +kernel
