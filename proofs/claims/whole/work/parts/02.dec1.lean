theorem d_Shelf_find_0 : decode b_Shelf_find 0 = .ok (.iconst 0, 1) := by decide +kernel
theorem d_Shelf_find_1 : decode b_Shelf_find 1 = .ok (.istore_n 2, 1) := by decide +kernel
theorem d_Shelf_find_2 : decode b_Shelf_find 2 = .ok (.iload_n 2, 1) := by decide +kernel
theorem d_Shelf_find_3 : decode b_Shelf_find 3 = .ok (.aload_n 0, 1) := by decide +kernel
theorem d_Shelf_find_4 : decode b_Shelf_find 4 = .ok (.getfield 17, 3) := by decide +kernel
theorem d_Shelf_find_7 : decode b_Shelf_find 7 = .ok (.arraylength, 1) := by decide +kernel
theorem d_Shelf_find_8 : decode b_Shelf_find 8 = .ok (.if_icmp .ge 41, 3) := by decide +kernel
theorem d_Shelf_find_11 : decode b_Shelf_find 11 = .ok (.aload_n 0, 1) := by decide +kernel
theorem d_Shelf_find_12 : decode b_Shelf_find 12 = .ok (.getfield 17, 3) := by decide +kernel
theorem d_Shelf_find_15 : decode b_Shelf_find 15 = .ok (.iload_n 2, 1) := by decide +kernel
theorem d_Shelf_find_16 : decode b_Shelf_find 16 = .ok (.aaload, 1) := by decide +kernel
theorem d_Shelf_find_17 : decode b_Shelf_find 17 = .ok (.getfield 22, 3) := by decide +kernel
theorem d_Shelf_find_20 : decode b_Shelf_find 20 = .ok (.ifCond .eq 23, 3) := by decide +kernel
theorem d_Shelf_find_23 : decode b_Shelf_find 23 = .ok (.aload_n 0, 1) := by decide +kernel
theorem d_Shelf_find_24 : decode b_Shelf_find 24 = .ok (.getfield 17, 3) := by decide +kernel
theorem d_Shelf_find_27 : decode b_Shelf_find 27 = .ok (.iload_n 2, 1) := by decide +kernel
theorem d_Shelf_find_28 : decode b_Shelf_find 28 = .ok (.aaload, 1) := by decide +kernel
theorem d_Shelf_find_29 : decode b_Shelf_find 29 = .ok (.getfield 26, 3) := by decide +kernel
theorem d_Shelf_find_32 : decode b_Shelf_find 32 = .ok (.iload_n 1, 1) := by decide +kernel
theorem d_Shelf_find_33 : decode b_Shelf_find 33 = .ok (.if_icmp .ne 10, 3) := by decide +kernel
theorem d_Shelf_find_36 : decode b_Shelf_find 36 = .ok (.aload_n 0, 1) := by decide +kernel
theorem d_Shelf_find_37 : decode b_Shelf_find 37 = .ok (.getfield 17, 3) := by decide +kernel
theorem d_Shelf_find_40 : decode b_Shelf_find 40 = .ok (.iload_n 2, 1) := by decide +kernel
theorem d_Shelf_find_41 : decode b_Shelf_find 41 = .ok (.aaload, 1) := by decide +kernel
theorem d_Shelf_find_42 : decode b_Shelf_find 42 = .ok (.areturn, 1) := by decide +kernel
theorem d_Shelf_find_43 : decode b_Shelf_find 43 = .ok (.iinc 2 1, 3) := by decide +kernel
theorem d_Shelf_find_46 : decode b_Shelf_find 46 = .ok (.goto (-44), 3) := by decide +kernel
theorem d_Shelf_find_49 : decode b_Shelf_find 49 = .ok (.aconst_null, 1) := by decide +kernel
theorem d_Shelf_find_50 : decode b_Shelf_find 50 = .ok (.areturn, 1) := by decide +kernel
theorem d_Shelf_oldest_0 : decode b_Shelf_oldest 0 = .ok (.aload_n 0, 1) := by decide +kernel
theorem d_Shelf_oldest_1 : decode b_Shelf_oldest 1 = .ok (.getfield 17, 3) := by decide +kernel
theorem d_Shelf_oldest_4 : decode b_Shelf_oldest 4 = .ok (.iconst 0, 1) := by decide +kernel
theorem d_Shelf_oldest_5 : decode b_Shelf_oldest 5 = .ok (.aaload, 1) := by decide +kernel
theorem d_Shelf_oldest_6 : decode b_Shelf_oldest 6 = .ok (.astore_n 2, 1) := by decide +kernel
theorem d_Shelf_oldest_7 : decode b_Shelf_oldest 7 = .ok (.iconst 1, 1) := by decide +kernel
theorem d_Shelf_oldest_8 : decode b_Shelf_oldest 8 = .ok (.istore_n 3, 1) := by decide +kernel
theorem d_Shelf_oldest_9 : decode b_Shelf_oldest 9 = .ok (.iload_n 3, 1) := by decide +kernel
theorem d_Shelf_oldest_10 : decode b_Shelf_oldest 10 = .ok (.aload_n 0, 1) := by decide +kernel
theorem d_Shelf_oldest_11 : decode b_Shelf_oldest 11 = .ok (.getfield 17, 3) := by decide +kernel
theorem d_Shelf_oldest_14 : decode b_Shelf_oldest 14 = .ok (.arraylength, 1) := by decide +kernel
theorem d_Shelf_oldest_15 : decode b_Shelf_oldest 15 = .ok (.if_icmp .ge 61, 3) := by decide +kernel
theorem d_Shelf_oldest_18 : decode b_Shelf_oldest 18 = .ok (.aload_n 0, 1) := by decide +kernel
theorem d_Shelf_oldest_19 : decode b_Shelf_oldest 19 = .ok (.getfield 17, 3) := by decide +kernel
theorem d_Shelf_oldest_22 : decode b_Shelf_oldest 22 = .ok (.iload_n 3, 1) := by decide +kernel
theorem d_Shelf_oldest_23 : decode b_Shelf_oldest 23 = .ok (.aaload, 1) := by decide +kernel
theorem d_Shelf_oldest_24 : decode b_Shelf_oldest 24 = .ok (.astore 4, 2) := by decide +kernel
theorem d_Shelf_oldest_26 : decode b_Shelf_oldest 26 = .ok (.aload 4, 2) := by decide +kernel
theorem d_Shelf_oldest_28 : decode b_Shelf_oldest 28 = .ok (.getfield 38, 3) := by decide +kernel
theorem d_Shelf_oldest_31 : decode b_Shelf_oldest 31 = .ok (.aload_n 2, 1) := by decide +kernel
theorem d_Shelf_oldest_32 : decode b_Shelf_oldest 32 = .ok (.getfield 38, 3) := by decide +kernel
theorem d_Shelf_oldest_35 : decode b_Shelf_oldest 35 = .ok (.if_icmp .ge 7, 3) := by decide +kernel
theorem d_Shelf_oldest_38 : decode b_Shelf_oldest 38 = .ok (.iconst 1, 1) := by decide +kernel
theorem d_Shelf_oldest_39 : decode b_Shelf_oldest 39 = .ok (.goto 4, 3) := by decide +kernel
theorem d_Shelf_oldest_42 : decode b_Shelf_oldest 42 = .ok (.iconst 0, 1) := by decide +kernel
theorem d_Shelf_oldest_43 : decode b_Shelf_oldest 43 = .ok (.istore 5, 2) := by decide +kernel
theorem d_Shelf_oldest_45 : decode b_Shelf_oldest 45 = .ok (.aload 4, 2) := by decide +kernel
theorem d_Shelf_oldest_47 : decode b_Shelf_oldest 47 = .ok (.getfield 26, 3) := by decide +kernel
theorem d_Shelf_oldest_50 : decode b_Shelf_oldest 50 = .ok (.iload_n 1, 1) := by decide +kernel
theorem d_Shelf_oldest_51 : decode b_Shelf_oldest 51 = .ok (.if_icmp .eq 19, 3) := by decide +kernel
theorem d_Shelf_oldest_54 : decode b_Shelf_oldest 54 = .ok (.iload 5, 2) := by decide +kernel
theorem d_Shelf_oldest_56 : decode b_Shelf_oldest 56 = .ok (.ifCond .ne 11, 3) := by decide +kernel
theorem d_Shelf_oldest_59 : decode b_Shelf_oldest 59 = .ok (.aload_n 2, 1) := by decide +kernel
theorem d_Shelf_oldest_60 : decode b_Shelf_oldest 60 = .ok (.getfield 26, 3) := by decide +kernel
theorem d_Shelf_oldest_63 : decode b_Shelf_oldest 63 = .ok (.iload_n 1, 1) := by decide +kernel
theorem d_Shelf_oldest_64 : decode b_Shelf_oldest 64 = .ok (.if_icmp .ne 6, 3) := by decide +kernel
theorem d_Shelf_oldest_67 : decode b_Shelf_oldest 67 = .ok (.aload 4, 2) := by decide +kernel
theorem d_Shelf_oldest_69 : decode b_Shelf_oldest 69 = .ok (.astore_n 2, 1) := by decide +kernel
theorem d_Shelf_oldest_70 : decode b_Shelf_oldest 70 = .ok (.iinc 3 1, 3) := by decide +kernel
theorem d_Shelf_oldest_73 : decode b_Shelf_oldest 73 = .ok (.goto (-64), 3) := by decide +kernel
theorem d_Shelf_oldest_76 : decode b_Shelf_oldest 76 = .ok (.aload_n 2, 1) := by decide +kernel
theorem d_Shelf_oldest_77 : decode b_Shelf_oldest 77 = .ok (.areturn, 1) := by decide +kernel
theorem d_Page_copyFrom_0 : decode b_Page_copyFrom 0 = .ok (.aload_n 0, 1) := by decide +kernel
theorem d_Page_copyFrom_1 : decode b_Page_copyFrom 1 = .ok (.aload_n 1, 1) := by decide +kernel
theorem d_Page_copyFrom_2 : decode b_Page_copyFrom 2 = .ok (.getfield 21, 3) := by decide +kernel
theorem d_Page_copyFrom_5 : decode b_Page_copyFrom 5 = .ok (.putfield 21, 3) := by decide +kernel
theorem d_Page_copyFrom_8 : decode b_Page_copyFrom 8 = .ok (.aload_n 0, 1) := by decide +kernel
theorem d_Page_copyFrom_9 : decode b_Page_copyFrom 9 = .ok (.aload_n 1, 1) := by decide +kernel
theorem d_Page_copyFrom_10 : decode b_Page_copyFrom 10 = .ok (.getfield 25, 3) := by decide +kernel
theorem d_Page_copyFrom_13 : decode b_Page_copyFrom 13 = .ok (.putfield 25, 3) := by decide +kernel
theorem d_Page_copyFrom_16 : decode b_Page_copyFrom 16 = .ok (.aload_n 0, 1) := by decide +kernel
theorem d_Page_copyFrom_17 : decode b_Page_copyFrom 17 = .ok (.aload_n 1, 1) := by decide +kernel
theorem d_Page_copyFrom_18 : decode b_Page_copyFrom 18 = .ok (.getfield 35, 3) := by decide +kernel
theorem d_Page_copyFrom_21 : decode b_Page_copyFrom 21 = .ok (.putfield 35, 3) := by decide +kernel
theorem d_Page_copyFrom_24 : decode b_Page_copyFrom 24 = .ok (.aload_n 0, 1) := by decide +kernel
theorem d_Page_copyFrom_25 : decode b_Page_copyFrom 25 = .ok (.aload_n 1, 1) := by decide +kernel
theorem d_Page_copyFrom_26 : decode b_Page_copyFrom 26 = .ok (.getfield 38, 3) := by decide +kernel
theorem d_Page_copyFrom_29 : decode b_Page_copyFrom 29 = .ok (.putfield 38, 3) := by decide +kernel
theorem d_Page_copyFrom_32 : decode b_Page_copyFrom 32 = .ok (.aload_n 0, 1) := by decide +kernel
theorem d_Page_copyFrom_33 : decode b_Page_copyFrom 33 = .ok (.aload_n 1, 1) := by decide +kernel
theorem d_Page_copyFrom_34 : decode b_Page_copyFrom 34 = .ok (.getfield 41, 3) := by decide +kernel
theorem d_Page_copyFrom_37 : decode b_Page_copyFrom 37 = .ok (.putfield 41, 3) := by decide +kernel
theorem d_Page_copyFrom_40 : decode b_Page_copyFrom 40 = .ok (.aload_n 1, 1) := by decide +kernel
theorem d_Page_copyFrom_41 : decode b_Page_copyFrom 41 = .ok (.getfield 9, 3) := by decide +kernel
theorem d_Page_copyFrom_44 : decode b_Page_copyFrom 44 = .ok (.iconst 0, 1) := by decide +kernel
theorem d_Page_copyFrom_45 : decode b_Page_copyFrom 45 = .ok (.aload_n 0, 1) := by decide +kernel
theorem d_Page_copyFrom_46 : decode b_Page_copyFrom 46 = .ok (.getfield 9, 3) := by decide +kernel
theorem d_Page_copyFrom_49 : decode b_Page_copyFrom 49 = .ok (.iconst 0, 1) := by decide +kernel
theorem d_Page_copyFrom_50 : decode b_Page_copyFrom 50 = .ok (.aload_n 0, 1) := by decide +kernel
theorem d_Page_copyFrom_51 : decode b_Page_copyFrom 51 = .ok (.getfield 9, 3) := by decide +kernel
theorem d_Page_copyFrom_54 : decode b_Page_copyFrom 54 = .ok (.arraylength, 1) := by decide +kernel
theorem d_Page_copyFrom_55 : decode b_Page_copyFrom 55 = .ok (.invokestatic 44, 3) := by decide +kernel
theorem d_Page_copyFrom_58 : decode b_Page_copyFrom 58 = .ok (.aload_n 1, 1) := by decide +kernel
theorem d_Page_copyFrom_59 : decode b_Page_copyFrom 59 = .ok (.getfield 15, 3) := by decide +kernel
theorem d_Page_copyFrom_62 : decode b_Page_copyFrom 62 = .ok (.iconst 0, 1) := by decide +kernel
theorem d_Page_copyFrom_63 : decode b_Page_copyFrom 63 = .ok (.aload_n 0, 1) := by decide +kernel
theorem d_Page_copyFrom_64 : decode b_Page_copyFrom 64 = .ok (.getfield 15, 3) := by decide +kernel
theorem d_Page_copyFrom_67 : decode b_Page_copyFrom 67 = .ok (.iconst 0, 1) := by decide +kernel
theorem d_Page_copyFrom_68 : decode b_Page_copyFrom 68 = .ok (.aload_n 0, 1) := by decide +kernel
theorem d_Page_copyFrom_69 : decode b_Page_copyFrom 69 = .ok (.getfield 15, 3) := by decide +kernel
theorem d_Page_copyFrom_72 : decode b_Page_copyFrom 72 = .ok (.arraylength, 1) := by decide +kernel
theorem d_Page_copyFrom_73 : decode b_Page_copyFrom 73 = .ok (.invokestatic 44, 3) := by decide +kernel
theorem d_Page_copyFrom_76 : decode b_Page_copyFrom 76 = .ok (.aload_n 1, 1) := by decide +kernel
theorem d_Page_copyFrom_77 : decode b_Page_copyFrom 77 = .ok (.getfield 18, 3) := by decide +kernel
theorem d_Page_copyFrom_80 : decode b_Page_copyFrom 80 = .ok (.iconst 0, 1) := by decide +kernel
theorem d_Page_copyFrom_81 : decode b_Page_copyFrom 81 = .ok (.aload_n 0, 1) := by decide +kernel
theorem d_Page_copyFrom_82 : decode b_Page_copyFrom 82 = .ok (.getfield 18, 3) := by decide +kernel
theorem d_Page_copyFrom_85 : decode b_Page_copyFrom 85 = .ok (.iconst 0, 1) := by decide +kernel
theorem d_Page_copyFrom_86 : decode b_Page_copyFrom 86 = .ok (.aload_n 0, 1) := by decide +kernel
theorem d_Page_copyFrom_87 : decode b_Page_copyFrom 87 = .ok (.getfield 18, 3) := by decide +kernel
theorem d_Page_copyFrom_90 : decode b_Page_copyFrom 90 = .ok (.arraylength, 1) := by decide +kernel
theorem d_Page_copyFrom_91 : decode b_Page_copyFrom 91 = .ok (.invokestatic 44, 3) := by decide +kernel
theorem d_Page_copyFrom_94 : decode b_Page_copyFrom 94 = .ok (.return_, 1) := by decide +kernel
theorem d_Tuner_beginPage_0 : decode b_Tuner_beginPage 0 = .ok (.sipush 256, 3) := by decide +kernel
theorem d_Tuner_beginPage_3 : decode b_Tuner_beginPage 3 = .ok (.iload_n 1, 1) := by decide +kernel
theorem d_Tuner_beginPage_4 : decode b_Tuner_beginPage 4 = .ok (.imul, 1) := by decide +kernel
theorem d_Tuner_beginPage_5 : decode b_Tuner_beginPage 5 = .ok (.bipush 16, 2) := by decide +kernel
theorem d_Tuner_beginPage_7 : decode b_Tuner_beginPage 7 = .ok (.aload_n 0, 1) := by decide +kernel
theorem d_Tuner_beginPage_8 : decode b_Tuner_beginPage 8 = .ok (.getfield 21, 3) := by decide +kernel
theorem d_Tuner_beginPage_11 : decode b_Tuner_beginPage 11 = .ok (.iconst 1, 1) := by decide +kernel
theorem d_Tuner_beginPage_12 : decode b_Tuner_beginPage 12 = .ok (.iaload, 1) := by decide +kernel
theorem d_Tuner_beginPage_13 : decode b_Tuner_beginPage 13 = .ok (.imul, 1) := by decide +kernel
theorem d_Tuner_beginPage_14 : decode b_Tuner_beginPage 14 = .ok (.iadd, 1) := by decide +kernel
theorem d_Tuner_beginPage_15 : decode b_Tuner_beginPage 15 = .ok (.aload_n 0, 1) := by decide +kernel
theorem d_Tuner_beginPage_16 : decode b_Tuner_beginPage 16 = .ok (.getfield 21, 3) := by decide +kernel
theorem d_Tuner_beginPage_19 : decode b_Tuner_beginPage 19 = .ok (.iconst 0, 1) := by decide +kernel
theorem d_Tuner_beginPage_20 : decode b_Tuner_beginPage 20 = .ok (.iaload, 1) := by decide +kernel
theorem d_Tuner_beginPage_21 : decode b_Tuner_beginPage 21 = .ok (.iadd, 1) := by decide +kernel
theorem d_Tuner_beginPage_22 : decode b_Tuner_beginPage 22 = .ok (.istore_n 2, 1) := by decide +kernel
theorem d_Tuner_beginPage_23 : decode b_Tuner_beginPage 23 = .ok (.aload_n 0, 1) := by decide +kernel
theorem d_Tuner_beginPage_24 : decode b_Tuner_beginPage 24 = .ok (.getfield 11, 3) := by decide +kernel
theorem d_Tuner_beginPage_27 : decode b_Tuner_beginPage 27 = .ok (.iload_n 1, 1) := by decide +kernel
theorem d_Tuner_beginPage_28 : decode b_Tuner_beginPage 28 = .ok (.aaload, 1) := by decide +kernel
theorem d_Tuner_beginPage_29 : decode b_Tuner_beginPage 29 = .ok (.astore_n 3, 1) := by decide +kernel
theorem d_Tuner_beginPage_30 : decode b_Tuner_beginPage 30 = .ok (.aload_n 0, 1) := by decide +kernel
theorem d_Tuner_beginPage_31 : decode b_Tuner_beginPage 31 = .ok (.getfield 21, 3) := by decide +kernel
theorem d_Tuner_beginPage_34 : decode b_Tuner_beginPage 34 = .ok (.iconst 3, 1) := by decide +kernel
theorem d_Tuner_beginPage_35 : decode b_Tuner_beginPage 35 = .ok (.iaload, 1) := by decide +kernel
theorem d_Tuner_beginPage_36 : decode b_Tuner_beginPage 36 = .ok (.bipush 8, 2) := by decide +kernel
theorem d_Tuner_beginPage_38 : decode b_Tuner_beginPage 38 = .ok (.if_icmp .ge 14, 3) := by decide +kernel
theorem d_Tuner_beginPage_41 : decode b_Tuner_beginPage 41 = .ok (.aload_n 0, 1) := by decide +kernel
theorem d_Tuner_beginPage_42 : decode b_Tuner_beginPage 42 = .ok (.getfield 28, 3) := by decide +kernel
theorem d_Tuner_beginPage_45 : decode b_Tuner_beginPage 45 = .ok (.iload_n 2, 1) := by decide +kernel
theorem d_Tuner_beginPage_46 : decode b_Tuner_beginPage 46 = .ok (.invokevirtual 101, 3) := by decide +kernel
theorem d_Tuner_beginPage_49 : decode b_Tuner_beginPage 49 = .ok (.goto 4, 3) := by decide +kernel
theorem d_Tuner_beginPage_52 : decode b_Tuner_beginPage 52 = .ok (.aconst_null, 1) := by decide +kernel
theorem d_Tuner_beginPage_53 : decode b_Tuner_beginPage 53 = .ok (.astore 4, 2) := by decide +kernel
theorem d_Tuner_beginPage_55 : decode b_Tuner_beginPage 55 = .ok (.aload 4, 2) := by decide +kernel
theorem d_Tuner_beginPage_57 : decode b_Tuner_beginPage 57 = .ok (.ifnonnull 11, 3) := by decide +kernel
theorem d_Tuner_beginPage_60 : decode b_Tuner_beginPage 60 = .ok (.aload_n 3, 1) := by decide +kernel
theorem d_Tuner_beginPage_61 : decode b_Tuner_beginPage 61 = .ok (.iload_n 2, 1) := by decide +kernel
theorem d_Tuner_beginPage_62 : decode b_Tuner_beginPage 62 = .ok (.invokevirtual 105, 3) := by decide +kernel
theorem d_Tuner_beginPage_65 : decode b_Tuner_beginPage 65 = .ok (.goto 9, 3) := by decide +kernel
theorem d_Tuner_beginPage_68 : decode b_Tuner_beginPage 68 = .ok (.aload_n 3, 1) := by decide +kernel
theorem d_Tuner_beginPage_69 : decode b_Tuner_beginPage 69 = .ok (.aload 4, 2) := by decide +kernel
theorem d_Tuner_beginPage_71 : decode b_Tuner_beginPage 71 = .ok (.invokevirtual 108, 3) := by decide +kernel
theorem d_Tuner_beginPage_74 : decode b_Tuner_beginPage 74 = .ok (.aload_n 3, 1) := by decide +kernel
theorem d_Tuner_beginPage_75 : decode b_Tuner_beginPage 75 = .ok (.aload_n 0, 1) := by decide +kernel
theorem d_Tuner_beginPage_76 : decode b_Tuner_beginPage 76 = .ok (.getfield 21, 3) := by decide +kernel
theorem d_Tuner_beginPage_79 : decode b_Tuner_beginPage 79 = .ok (.iconst 2, 1) := by decide +kernel
theorem d_Tuner_beginPage_80 : decode b_Tuner_beginPage 80 = .ok (.iaload, 1) := by decide +kernel
theorem d_Tuner_beginPage_81 : decode b_Tuner_beginPage 81 = .ok (.putfield 111, 3) := by decide +kernel
theorem d_Tuner_beginPage_84 : decode b_Tuner_beginPage 84 = .ok (.aload_n 3, 1) := by decide +kernel
theorem d_Tuner_beginPage_85 : decode b_Tuner_beginPage 85 = .ok (.aload_n 0, 1) := by decide +kernel
theorem d_Tuner_beginPage_86 : decode b_Tuner_beginPage 86 = .ok (.getfield 21, 3) := by decide +kernel
theorem d_Tuner_beginPage_89 : decode b_Tuner_beginPage 89 = .ok (.iconst 5, 1) := by decide +kernel
theorem d_Tuner_beginPage_90 : decode b_Tuner_beginPage 90 = .ok (.iaload, 1) := by decide +kernel
theorem d_Tuner_beginPage_91 : decode b_Tuner_beginPage 91 = .ok (.bipush 8, 2) := by decide +kernel
theorem d_Tuner_beginPage_93 : decode b_Tuner_beginPage 93 = .ok (.irem, 1) := by decide +kernel
theorem d_Tuner_beginPage_94 : decode b_Tuner_beginPage 94 = .ok (.putfield 114, 3) := by decide +kernel
theorem d_Tuner_beginPage_97 : decode b_Tuner_beginPage 97 = .ok (.return_, 1) := by decide +kernel
theorem d_Page_begin_0 : decode b_Page_begin 0 = .ok (.aload_n 0, 1) := by decide +kernel
theorem d_Page_begin_1 : decode b_Page_begin 1 = .ok (.iconst 1, 1) := by decide +kernel
theorem d_Page_begin_2 : decode b_Page_begin 2 = .ok (.putfield 21, 3) := by decide +kernel
theorem d_Page_begin_5 : decode b_Page_begin 5 = .ok (.aload_n 0, 1) := by decide +kernel
theorem d_Page_begin_6 : decode b_Page_begin 6 = .ok (.iload_n 1, 1) := by decide +kernel
theorem d_Page_begin_7 : decode b_Page_begin 7 = .ok (.putfield 25, 3) := by decide +kernel
theorem d_Page_begin_10 : decode b_Page_begin 10 = .ok (.aload_n 0, 1) := by decide +kernel
theorem d_Page_begin_11 : decode b_Page_begin 11 = .ok (.getfield 9, 3) := by decide +kernel
theorem d_Page_begin_14 : decode b_Page_begin 14 = .ok (.bipush 32, 2) := by decide +kernel
theorem d_Page_begin_16 : decode b_Page_begin 16 = .ok (.invokestatic 29, 3) := by decide +kernel
theorem d_Page_begin_19 : decode b_Page_begin 19 = .ok (.aload_n 0, 1) := by decide +kernel
theorem d_Page_begin_20 : decode b_Page_begin 20 = .ok (.getfield 15, 3) := by decide +kernel
theorem d_Page_begin_23 : decode b_Page_begin 23 = .ok (.iconst 0, 1) := by decide +kernel
theorem d_Page_begin_24 : decode b_Page_begin 24 = .ok (.invokestatic 29, 3) := by decide +kernel
theorem d_Page_begin_27 : decode b_Page_begin 27 = .ok (.aload_n 0, 1) := by decide +kernel
theorem d_Page_begin_28 : decode b_Page_begin 28 = .ok (.getfield 18, 3) := by decide +kernel
theorem d_Page_begin_31 : decode b_Page_begin 31 = .ok (.iconst (-1), 1) := by decide +kernel
theorem d_Page_begin_32 : decode b_Page_begin 32 = .ok (.invokestatic 29, 3) := by decide +kernel
theorem d_Page_begin_35 : decode b_Page_begin 35 = .ok (.return_, 1) := by decide +kernel
theorem d_Tuner_takeHeaderLetters_0 : decode b_Tuner_takeHeaderLetters 0 = .ok (.bipush 8, 2) := by decide +kernel
theorem d_Tuner_takeHeaderLetters_2 : decode b_Tuner_takeHeaderLetters 2 = .ok (.istore_n 3, 1) := by decide +kernel
theorem d_Tuner_takeHeaderLetters_3 : decode b_Tuner_takeHeaderLetters 3 = .ok (.iload_n 3, 1) := by decide +kernel
theorem d_Tuner_takeHeaderLetters_4 : decode b_Tuner_takeHeaderLetters 4 = .ok (.bipush 20, 2) := by decide +kernel
theorem d_Tuner_takeHeaderLetters_6 : decode b_Tuner_takeHeaderLetters 6 = .ok (.if_icmp .ge 60, 3) := by decide +kernel
theorem d_Tuner_takeHeaderLetters_9 : decode b_Tuner_takeHeaderLetters 9 = .ok (.aload_n 0, 1) := by decide +kernel
theorem d_Tuner_takeHeaderLetters_10 : decode b_Tuner_takeHeaderLetters 10 = .ok (.getfield 24, 3) := by decide +kernel
theorem d_Tuner_takeHeaderLetters_13 : decode b_Tuner_takeHeaderLetters 13 = .ok (.iconst 2, 1) := by decide +kernel
theorem d_Tuner_takeHeaderLetters_14 : decode b_Tuner_takeHeaderLetters 14 = .ok (.iload_n 3, 1) := by decide +kernel
theorem d_Tuner_takeHeaderLetters_15 : decode b_Tuner_takeHeaderLetters 15 = .ok (.iadd, 1) := by decide +kernel
theorem d_Tuner_takeHeaderLetters_16 : decode b_Tuner_takeHeaderLetters 16 = .ok (.invokevirtual 117, 3) := by decide +kernel
theorem d_Tuner_takeHeaderLetters_19 : decode b_Tuner_takeHeaderLetters 19 = .ok (.istore 4, 2) := by decide +kernel
theorem d_Tuner_takeHeaderLetters_21 : decode b_Tuner_takeHeaderLetters 21 = .ok (.iload 4, 2) := by decide +kernel
theorem d_Tuner_takeHeaderLetters_23 : decode b_Tuner_takeHeaderLetters 23 = .ok (.iconst (-1), 1) := by decide +kernel
theorem d_Tuner_takeHeaderLetters_24 : decode b_Tuner_takeHeaderLetters 24 = .ok (.if_icmp .eq 18, 3) := by decide +kernel
theorem d_Tuner_takeHeaderLetters_27 : decode b_Tuner_takeHeaderLetters 27 = .ok (.aload_n 1, 1) := by decide +kernel
theorem d_Tuner_takeHeaderLetters_28 : decode b_Tuner_takeHeaderLetters 28 = .ok (.getfield 56, 3) := by decide +kernel
theorem d_Tuner_takeHeaderLetters_31 : decode b_Tuner_takeHeaderLetters 31 = .ok (.ifCond .eq 11, 3) := by decide +kernel
theorem d_Tuner_takeHeaderLetters_34 : decode b_Tuner_takeHeaderLetters 34 = .ok (.aload_n 1, 1) := by decide +kernel
theorem d_Tuner_takeHeaderLetters_35 : decode b_Tuner_takeHeaderLetters 35 = .ok (.iconst 0, 1) := by decide +kernel
theorem d_Tuner_takeHeaderLetters_36 : decode b_Tuner_takeHeaderLetters 36 = .ok (.iload_n 3, 1) := by decide +kernel
theorem d_Tuner_takeHeaderLetters_37 : decode b_Tuner_takeHeaderLetters 37 = .ok (.iload 4, 2) := by decide +kernel
theorem d_Tuner_takeHeaderLetters_39 : decode b_Tuner_takeHeaderLetters 39 = .ok (.invokevirtual 120, 3) := by decide +kernel
theorem d_Tuner_takeHeaderLetters_42 : decode b_Tuner_takeHeaderLetters 42 = .ok (.iload 4, 2) := by decide +kernel
theorem d_Tuner_takeHeaderLetters_44 : decode b_Tuner_takeHeaderLetters 44 = .ok (.iconst (-1), 1) := by decide +kernel
theorem d_Tuner_takeHeaderLetters_45 : decode b_Tuner_takeHeaderLetters 45 = .ok (.if_icmp .eq 15, 3) := by decide +kernel
theorem d_Tuner_takeHeaderLetters_48 : decode b_Tuner_takeHeaderLetters 48 = .ok (.iload_n 2, 1) := by decide +kernel
theorem d_Tuner_takeHeaderLetters_49 : decode b_Tuner_takeHeaderLetters 49 = .ok (.ifCond .eq 11, 3) := by decide +kernel
theorem d_Tuner_takeHeaderLetters_52 : decode b_Tuner_takeHeaderLetters 52 = .ok (.aload_n 0, 1) := by decide +kernel
theorem d_Tuner_takeHeaderLetters_53 : decode b_Tuner_takeHeaderLetters 53 = .ok (.getfield 17, 3) := by decide +kernel
theorem d_Tuner_takeHeaderLetters_56 : decode b_Tuner_takeHeaderLetters 56 = .ok (.iload_n 3, 1) := by decide +kernel
theorem d_Tuner_takeHeaderLetters_57 : decode b_Tuner_takeHeaderLetters 57 = .ok (.iload 4, 2) := by decide +kernel
theorem d_Tuner_takeHeaderLetters_59 : decode b_Tuner_takeHeaderLetters 59 = .ok (.iastore, 1) := by decide +kernel
theorem d_Tuner_takeHeaderLetters_60 : decode b_Tuner_takeHeaderLetters 60 = .ok (.iinc 3 1, 3) := by decide +kernel
theorem d_Tuner_takeHeaderLetters_63 : decode b_Tuner_takeHeaderLetters 63 = .ok (.goto (-60), 3) := by decide +kernel
theorem d_Tuner_takeHeaderLetters_66 : decode b_Tuner_takeHeaderLetters 66 = .ok (.return_, 1) := by decide +kernel
theorem d_Packet_letter_0 : decode b_Packet_letter 0 = .ok (.aload_n 0, 1) := by decide +kernel
theorem d_Packet_letter_1 : decode b_Packet_letter 1 = .ok (.iload_n 1, 1) := by decide +kernel
theorem d_Packet_letter_2 : decode b_Packet_letter 2 = .ok (.invokevirtual 25, 3) := by decide +kernel
theorem d_Packet_letter_5 : decode b_Packet_letter 5 = .ok (.istore_n 2, 1) := by decide +kernel
theorem d_Packet_letter_6 : decode b_Packet_letter 6 = .ok (.iload_n 2, 1) := by decide +kernel
theorem d_Packet_letter_7 : decode b_Packet_letter 7 = .ok (.invokestatic 34, 3) := by decide +kernel
theorem d_Packet_letter_10 : decode b_Packet_letter 10 = .ok (.ifCond .ne 15, 3) := by decide +kernel
theorem d_Packet_letter_13 : decode b_Packet_letter 13 = .ok (.aload_n 0, 1) := by decide +kernel
theorem d_Packet_letter_14 : decode b_Packet_letter 14 = .ok (.getfield 15, 3) := by decide +kernel
theorem d_Packet_letter_17 : decode b_Packet_letter 17 = .ok (.iconst 4, 1) := by decide +kernel
theorem d_Packet_letter_18 : decode b_Packet_letter 18 = .ok (.dup2, 1) := by decide +kernel
theorem d_Packet_letter_19 : decode b_Packet_letter 19 = .ok (.iaload, 1) := by decide +kernel
theorem d_Packet_letter_20 : decode b_Packet_letter 20 = .ok (.iconst 1, 1) := by decide +kernel
theorem d_Packet_letter_21 : decode b_Packet_letter 21 = .ok (.iadd, 1) := by decide +kernel
theorem d_Packet_letter_22 : decode b_Packet_letter 22 = .ok (.iastore, 1) := by decide +kernel
theorem d_Packet_letter_23 : decode b_Packet_letter 23 = .ok (.iconst (-1), 1) := by decide +kernel
theorem d_Packet_letter_24 : decode b_Packet_letter 24 = .ok (.ireturn, 1) := by decide +kernel
theorem d_Packet_letter_25 : decode b_Packet_letter 25 = .ok (.iload_n 2, 1) := by decide +kernel
theorem d_Packet_letter_26 : decode b_Packet_letter 26 = .ok (.bipush 127, 2) := by decide +kernel
theorem d_Packet_letter_28 : decode b_Packet_letter 28 = .ok (.iand, 1) := by decide +kernel
theorem d_Packet_letter_29 : decode b_Packet_letter 29 = .ok (.ireturn, 1) := by decide +kernel
theorem d_Packet_isOdd_0 : decode b_Packet_isOdd 0 = .ok (.iload_n 0, 1) := by decide +kernel
theorem d_Packet_isOdd_1 : decode b_Packet_isOdd 1 = .ok (.invokestatic 29, 3) := by decide +kernel
theorem d_Packet_isOdd_4 : decode b_Packet_isOdd 4 = .ok (.iconst 2, 1) := by decide +kernel
theorem d_Packet_isOdd_5 : decode b_Packet_isOdd 5 = .ok (.irem, 1) := by decide +kernel
theorem d_Packet_isOdd_6 : decode b_Packet_isOdd 6 = .ok (.iconst 1, 1) := by decide +kernel
theorem d_Packet_isOdd_7 : decode b_Packet_isOdd 7 = .ok (.if_icmp .ne 7, 3) := by decide +kernel
theorem d_Packet_isOdd_10 : decode b_Packet_isOdd 10 = .ok (.iconst 1, 1) := by decide +kernel
theorem d_Packet_isOdd_11 : decode b_Packet_isOdd 11 = .ok (.goto 4, 3) := by decide +kernel
theorem d_Packet_isOdd_14 : decode b_Packet_isOdd 14 = .ok (.iconst 0, 1) := by decide +kernel
theorem d_Packet_isOdd_15 : decode b_Packet_isOdd 15 = .ok (.ireturn, 1) := by decide +kernel
theorem d_Page_setLetter_0 : decode b_Page_setLetter 0 = .ok (.iload_n 1, 1) := by decide +kernel
theorem d_Page_setLetter_1 : decode b_Page_setLetter 1 = .ok (.iload_n 2, 1) := by decide +kernel
theorem d_Page_setLetter_2 : decode b_Page_setLetter 2 = .ok (.invokestatic 50, 3) := by decide +kernel
theorem d_Page_setLetter_5 : decode b_Page_setLetter 5 = .ok (.ifCond .eq 15, 3) := by decide +kernel
theorem d_Page_setLetter_8 : decode b_Page_setLetter 8 = .ok (.aload_n 0, 1) := by decide +kernel
theorem d_Page_setLetter_9 : decode b_Page_setLetter 9 = .ok (.getfield 9, 3) := by decide +kernel
theorem d_Page_setLetter_12 : decode b_Page_setLetter 12 = .ok (.iload_n 1, 1) := by decide +kernel
theorem d_Page_setLetter_13 : decode b_Page_setLetter 13 = .ok (.bipush 20, 2) := by decide +kernel
theorem d_Page_setLetter_15 : decode b_Page_setLetter 15 = .ok (.imul, 1) := by decide +kernel
theorem d_Page_setLetter_16 : decode b_Page_setLetter 16 = .ok (.iload_n 2, 1) := by decide +kernel
theorem d_Page_setLetter_17 : decode b_Page_setLetter 17 = .ok (.iadd, 1) := by decide +kernel
theorem d_Page_setLetter_18 : decode b_Page_setLetter 18 = .ok (.iload_n 3, 1) := by decide +kernel
theorem d_Page_setLetter_19 : decode b_Page_setLetter 19 = .ok (.iastore, 1) := by decide +kernel
theorem d_Page_setLetter_20 : decode b_Page_setLetter 20 = .ok (.return_, 1) := by decide +kernel
theorem d_Recv_isCell_0 : decode b_Recv_isCell 0 = .ok (.iload_n 0, 1) := by decide +kernel
theorem d_Recv_isCell_1 : decode b_Recv_isCell 1 = .ok (.ifCond .lt 23, 3) := by decide +kernel
theorem d_Recv_isCell_4 : decode b_Recv_isCell 4 = .ok (.iload_n 0, 1) := by decide +kernel
theorem d_Recv_isCell_5 : decode b_Recv_isCell 5 = .ok (.bipush 8, 2) := by decide +kernel
theorem d_Recv_isCell_7 : decode b_Recv_isCell 7 = .ok (.if_icmp .ge 17, 3) := by decide +kernel
theorem d_Recv_isCell_10 : decode b_Recv_isCell 10 = .ok (.iload_n 1, 1) := by decide +kernel
theorem d_Recv_isCell_11 : decode b_Recv_isCell 11 = .ok (.ifCond .lt 13, 3) := by decide +kernel
theorem d_Recv_isCell_14 : decode b_Recv_isCell 14 = .ok (.iload_n 1, 1) := by decide +kernel
theorem d_Recv_isCell_15 : decode b_Recv_isCell 15 = .ok (.bipush 20, 2) := by decide +kernel
theorem d_Recv_isCell_17 : decode b_Recv_isCell 17 = .ok (.if_icmp .ge 7, 3) := by decide +kernel
theorem d_Recv_isCell_20 : decode b_Recv_isCell 20 = .ok (.iconst 1, 1) := by decide +kernel
theorem d_Recv_isCell_21 : decode b_Recv_isCell 21 = .ok (.goto 4, 3) := by decide +kernel
theorem d_Recv_isCell_24 : decode b_Recv_isCell 24 = .ok (.iconst 0, 1) := by decide +kernel
theorem d_Recv_isCell_25 : decode b_Recv_isCell 25 = .ok (.ireturn, 1) := by decide +kernel
theorem d_Tuner_takeRow_0 : decode b_Tuner_takeRow 0 = .ok (.iload_n 3, 1) := by decide +kernel
theorem d_Tuner_takeRow_1 : decode b_Tuner_takeRow 1 = .ok (.bipush 8, 2) := by decide +kernel
theorem d_Tuner_takeRow_3 : decode b_Tuner_takeRow 3 = .ok (.if_icmp .ge 12, 3) := by decide +kernel
theorem d_Tuner_takeRow_6 : decode b_Tuner_takeRow 6 = .ok (.aload_n 0, 1) := by decide +kernel
theorem d_Tuner_takeRow_7 : decode b_Tuner_takeRow 7 = .ok (.aload_n 1, 1) := by decide +kernel
theorem d_Tuner_takeRow_8 : decode b_Tuner_takeRow 8 = .ok (.iload_n 3, 1) := by decide +kernel
theorem d_Tuner_takeRow_9 : decode b_Tuner_takeRow 9 = .ok (.invokevirtual 64, 3) := by decide +kernel
theorem d_Tuner_takeRow_12 : decode b_Tuner_takeRow 12 = .ok (.goto 29, 3) := by decide +kernel
theorem d_Tuner_takeRow_15 : decode b_Tuner_takeRow 15 = .ok (.iload_n 3, 1) := by decide +kernel
theorem d_Tuner_takeRow_16 : decode b_Tuner_takeRow 16 = .ok (.bipush 26, 2) := by decide +kernel
theorem d_Tuner_takeRow_18 : decode b_Tuner_takeRow 18 = .ok (.if_icmp .ne 11, 3) := by decide +kernel
theorem d_Tuner_takeRow_21 : decode b_Tuner_takeRow 21 = .ok (.aload_n 0, 1) := by decide +kernel
theorem d_Tuner_takeRow_22 : decode b_Tuner_takeRow 22 = .ok (.aload_n 1, 1) := by decide +kernel
theorem d_Tuner_takeRow_23 : decode b_Tuner_takeRow 23 = .ok (.invokevirtual 68, 3) := by decide +kernel
theorem d_Tuner_takeRow_26 : decode b_Tuner_takeRow 26 = .ok (.goto 15, 3) := by decide +kernel
theorem d_Tuner_takeRow_29 : decode b_Tuner_takeRow 29 = .ok (.iload_n 3, 1) := by decide +kernel
theorem d_Tuner_takeRow_30 : decode b_Tuner_takeRow 30 = .ok (.bipush 27, 2) := by decide +kernel
theorem d_Tuner_takeRow_32 : decode b_Tuner_takeRow 32 = .ok (.if_icmp .ne 9, 3) := by decide +kernel
theorem d_Tuner_takeRow_35 : decode b_Tuner_takeRow 35 = .ok (.aload_n 0, 1) := by decide +kernel
theorem d_Tuner_takeRow_36 : decode b_Tuner_takeRow 36 = .ok (.aload_n 1, 1) := by decide +kernel
theorem d_Tuner_takeRow_37 : decode b_Tuner_takeRow 37 = .ok (.iload_n 2, 1) := by decide +kernel
theorem d_Tuner_takeRow_38 : decode b_Tuner_takeRow 38 = .ok (.invokevirtual 72, 3) := by decide +kernel
theorem d_Tuner_takeRow_41 : decode b_Tuner_takeRow 41 = .ok (.return_, 1) := by decide +kernel
theorem d_Tuner_takeLetters_0 : decode b_Tuner_takeLetters 0 = .ok (.iconst 0, 1) := by decide +kernel
theorem d_Tuner_takeLetters_1 : decode b_Tuner_takeLetters 1 = .ok (.istore_n 3, 1) := by decide +kernel
theorem d_Tuner_takeLetters_2 : decode b_Tuner_takeLetters 2 = .ok (.iload_n 3, 1) := by decide +kernel
theorem d_Tuner_takeLetters_3 : decode b_Tuner_takeLetters 3 = .ok (.bipush 20, 2) := by decide +kernel
theorem d_Tuner_takeLetters_5 : decode b_Tuner_takeLetters 5 = .ok (.if_icmp .ge 35, 3) := by decide +kernel
theorem d_Tuner_takeLetters_8 : decode b_Tuner_takeLetters 8 = .ok (.aload_n 0, 1) := by decide +kernel
theorem d_Tuner_takeLetters_9 : decode b_Tuner_takeLetters 9 = .ok (.getfield 24, 3) := by decide +kernel
theorem d_Tuner_takeLetters_12 : decode b_Tuner_takeLetters 12 = .ok (.iconst 2, 1) := by decide +kernel
theorem d_Tuner_takeLetters_13 : decode b_Tuner_takeLetters 13 = .ok (.iload_n 3, 1) := by decide +kernel
theorem d_Tuner_takeLetters_14 : decode b_Tuner_takeLetters 14 = .ok (.iadd, 1) := by decide +kernel
theorem d_Tuner_takeLetters_15 : decode b_Tuner_takeLetters 15 = .ok (.invokevirtual 117, 3) := by decide +kernel
theorem d_Tuner_takeLetters_18 : decode b_Tuner_takeLetters 18 = .ok (.istore 4, 2) := by decide +kernel
theorem d_Tuner_takeLetters_20 : decode b_Tuner_takeLetters 20 = .ok (.iload 4, 2) := by decide +kernel
theorem d_Tuner_takeLetters_22 : decode b_Tuner_takeLetters 22 = .ok (.iconst (-1), 1) := by decide +kernel
theorem d_Tuner_takeLetters_23 : decode b_Tuner_takeLetters 23 = .ok (.if_icmp .eq 11, 3) := by decide +kernel
theorem d_Tuner_takeLetters_26 : decode b_Tuner_takeLetters 26 = .ok (.aload_n 1, 1) := by decide +kernel
theorem d_Tuner_takeLetters_27 : decode b_Tuner_takeLetters 27 = .ok (.iload_n 2, 1) := by decide +kernel
theorem d_Tuner_takeLetters_28 : decode b_Tuner_takeLetters 28 = .ok (.iload_n 3, 1) := by decide +kernel
theorem d_Tuner_takeLetters_29 : decode b_Tuner_takeLetters 29 = .ok (.iload 4, 2) := by decide +kernel
theorem d_Tuner_takeLetters_31 : decode b_Tuner_takeLetters 31 = .ok (.invokevirtual 120, 3) := by decide +kernel
theorem d_Tuner_takeLetters_34 : decode b_Tuner_takeLetters 34 = .ok (.iinc 3 1, 3) := by decide +kernel
theorem d_Tuner_takeLetters_37 : decode b_Tuner_takeLetters 37 = .ok (.goto (-35), 3) := by decide +kernel
theorem d_Tuner_takeLetters_40 : decode b_Tuner_takeLetters 40 = .ok (.return_, 1) := by decide +kernel
theorem d_Tuner_takeOverlays_0 : decode b_Tuner_takeOverlays 0 = .ok (.iconst 0, 1) := by decide +kernel
theorem d_Tuner_takeOverlays_1 : decode b_Tuner_takeOverlays 1 = .ok (.istore_n 2, 1) := by decide +kernel
theorem d_Tuner_takeOverlays_2 : decode b_Tuner_takeOverlays 2 = .ok (.iconst 0, 1) := by decide +kernel
theorem d_Tuner_takeOverlays_3 : decode b_Tuner_takeOverlays 3 = .ok (.istore_n 3, 1) := by decide +kernel
theorem d_Tuner_takeOverlays_4 : decode b_Tuner_takeOverlays 4 = .ok (.iload_n 3, 1) := by decide +kernel
theorem d_Tuner_takeOverlays_5 : decode b_Tuner_takeOverlays 5 = .ok (.bipush 6, 2) := by decide +kernel
theorem d_Tuner_takeOverlays_7 : decode b_Tuner_takeOverlays 7 = .ok (.if_icmp .ge 37, 3) := by decide +kernel
theorem d_Tuner_takeOverlays_10 : decode b_Tuner_takeOverlays 10 = .ok (.aload_n 0, 1) := by decide +kernel
theorem d_Tuner_takeOverlays_11 : decode b_Tuner_takeOverlays 11 = .ok (.getfield 24, 3) := by decide +kernel
theorem d_Tuner_takeOverlays_14 : decode b_Tuner_takeOverlays 14 = .ok (.iconst 2, 1) := by decide +kernel
theorem d_Tuner_takeOverlays_15 : decode b_Tuner_takeOverlays 15 = .ok (.iconst 3, 1) := by decide +kernel
theorem d_Tuner_takeOverlays_16 : decode b_Tuner_takeOverlays 16 = .ok (.iload_n 3, 1) := by decide +kernel
theorem d_Tuner_takeOverlays_17 : decode b_Tuner_takeOverlays 17 = .ok (.imul, 1) := by decide +kernel
theorem d_Tuner_takeOverlays_18 : decode b_Tuner_takeOverlays 18 = .ok (.iadd, 1) := by decide +kernel
theorem d_Tuner_takeOverlays_19 : decode b_Tuner_takeOverlays 19 = .ok (.invokevirtual 124, 3) := by decide +kernel
theorem d_Tuner_takeOverlays_22 : decode b_Tuner_takeOverlays 22 = .ok (.istore 4, 2) := by decide +kernel
theorem d_Tuner_takeOverlays_24 : decode b_Tuner_takeOverlays 24 = .ok (.iload 4, 2) := by decide +kernel
theorem d_Tuner_takeOverlays_26 : decode b_Tuner_takeOverlays 26 = .ok (.iconst (-1), 1) := by decide +kernel
theorem d_Tuner_takeOverlays_27 : decode b_Tuner_takeOverlays 27 = .ok (.if_icmp .eq 11, 3) := by decide +kernel
theorem d_Tuner_takeOverlays_30 : decode b_Tuner_takeOverlays 30 = .ok (.aload_n 1, 1) := by decide +kernel
theorem d_Tuner_takeOverlays_31 : decode b_Tuner_takeOverlays 31 = .ok (.iload_n 2, 1) := by decide +kernel
theorem d_Tuner_takeOverlays_32 : decode b_Tuner_takeOverlays 32 = .ok (.iload 4, 2) := by decide +kernel
theorem d_Tuner_takeOverlays_34 : decode b_Tuner_takeOverlays 34 = .ok (.invokestatic 127, 3) := by decide +kernel
theorem d_Tuner_takeOverlays_37 : decode b_Tuner_takeOverlays 37 = .ok (.istore_n 2, 1) := by decide +kernel
theorem d_Tuner_takeOverlays_38 : decode b_Tuner_takeOverlays 38 = .ok (.iinc 3 1, 3) := by decide +kernel
theorem d_Tuner_takeOverlays_41 : decode b_Tuner_takeOverlays 41 = .ok (.goto (-37), 3) := by decide +kernel
theorem d_Tuner_takeOverlays_44 : decode b_Tuner_takeOverlays 44 = .ok (.return_, 1) := by decide +kernel
theorem d_Packet_triplet_0 : decode b_Packet_triplet 0 = .ok (.aload_n 0, 1) := by decide +kernel
theorem d_Packet_triplet_1 : decode b_Packet_triplet 1 = .ok (.iload_n 1, 1) := by decide +kernel
theorem d_Packet_triplet_2 : decode b_Packet_triplet 2 = .ok (.invokevirtual 25, 3) := by decide +kernel
theorem d_Packet_triplet_5 : decode b_Packet_triplet 5 = .ok (.aload_n 0, 1) := by decide +kernel
theorem d_Packet_triplet_6 : decode b_Packet_triplet 6 = .ok (.iload_n 1, 1) := by decide +kernel
theorem d_Packet_triplet_7 : decode b_Packet_triplet 7 = .ok (.iconst 1, 1) := by decide +kernel
theorem d_Packet_triplet_8 : decode b_Packet_triplet 8 = .ok (.iadd, 1) := by decide +kernel
theorem d_Packet_triplet_9 : decode b_Packet_triplet 9 = .ok (.invokevirtual 25, 3) := by decide +kernel
theorem d_Packet_triplet_12 : decode b_Packet_triplet 12 = .ok (.bipush 8, 2) := by decide +kernel
theorem d_Packet_triplet_14 : decode b_Packet_triplet 14 = .ok (.ishl, 1) := by decide +kernel
theorem d_Packet_triplet_15 : decode b_Packet_triplet 15 = .ok (.ior, 1) := by decide +kernel
theorem d_Packet_triplet_16 : decode b_Packet_triplet 16 = .ok (.aload_n 0, 1) := by decide +kernel
theorem d_Packet_triplet_17 : decode b_Packet_triplet 17 = .ok (.iload_n 1, 1) := by decide +kernel
theorem d_Packet_triplet_18 : decode b_Packet_triplet 18 = .ok (.iconst 2, 1) := by decide +kernel
theorem d_Packet_triplet_19 : decode b_Packet_triplet 19 = .ok (.iadd, 1) := by decide +kernel
theorem d_Packet_triplet_20 : decode b_Packet_triplet 20 = .ok (.invokevirtual 25, 3) := by decide +kernel
theorem d_Packet_triplet_23 : decode b_Packet_triplet 23 = .ok (.bipush 16, 2) := by decide +kernel
theorem d_Packet_triplet_25 : decode b_Packet_triplet 25 = .ok (.ishl, 1) := by decide +kernel
theorem d_Packet_triplet_26 : decode b_Packet_triplet 26 = .ok (.ior, 1) := by decide +kernel
theorem d_Packet_triplet_27 : decode b_Packet_triplet 27 = .ok (.istore_n 2, 1) := by decide +kernel
theorem d_Packet_triplet_28 : decode b_Packet_triplet 28 = .ok (.iload_n 2, 1) := by decide +kernel
theorem d_Packet_triplet_29 : decode b_Packet_triplet 29 = .ok (.invokestatic 38, 3) := by decide +kernel
theorem d_Packet_triplet_32 : decode b_Packet_triplet 32 = .ok (.istore_n 3, 1) := by decide +kernel
theorem d_Packet_triplet_33 : decode b_Packet_triplet 33 = .ok (.iload_n 2, 1) := by decide +kernel
theorem d_Packet_triplet_34 : decode b_Packet_triplet 34 = .ok (.invokestatic 34, 3) := by decide +kernel
theorem d_Packet_triplet_37 : decode b_Packet_triplet 37 = .ok (.ifCond .eq 12, 3) := by decide +kernel
theorem d_Packet_triplet_40 : decode b_Packet_triplet 40 = .ok (.iload_n 3, 1) := by decide +kernel
theorem d_Packet_triplet_41 : decode b_Packet_triplet 41 = .ok (.ifCond .ne 8, 3) := by decide +kernel
theorem d_Packet_triplet_44 : decode b_Packet_triplet 44 = .ok (.iload_n 2, 1) := by decide +kernel
theorem d_Packet_triplet_45 : decode b_Packet_triplet 45 = .ok (.invokestatic 41, 3) := by decide +kernel
theorem d_Packet_triplet_48 : decode b_Packet_triplet 48 = .ok (.ireturn, 1) := by decide +kernel
theorem d_Packet_triplet_49 : decode b_Packet_triplet 49 = .ok (.iload_n 2, 1) := by decide +kernel
theorem d_Packet_triplet_50 : decode b_Packet_triplet 50 = .ok (.invokestatic 34, 3) := by decide +kernel
theorem d_Packet_triplet_53 : decode b_Packet_triplet 53 = .ok (.ifCond .ne 9, 3) := by decide +kernel
theorem d_Packet_triplet_56 : decode b_Packet_triplet 56 = .ok (.iload_n 3, 1) := by decide +kernel
theorem d_Packet_triplet_57 : decode b_Packet_triplet 57 = .ok (.bipush 24, 2) := by decide +kernel
theorem d_Packet_triplet_59 : decode b_Packet_triplet 59 = .ok (.if_icmp .lt 15, 3) := by decide +kernel
theorem d_Packet_triplet_62 : decode b_Packet_triplet 62 = .ok (.aload_n 0, 1) := by decide +kernel
theorem d_Packet_triplet_63 : decode b_Packet_triplet 63 = .ok (.getfield 15, 3) := by decide +kernel
theorem d_Packet_triplet_66 : decode b_Packet_triplet 66 = .ok (.iconst 3, 1) := by decide +kernel
theorem d_Packet_triplet_67 : decode b_Packet_triplet 67 = .ok (.dup2, 1) := by decide +kernel
theorem d_Packet_triplet_68 : decode b_Packet_triplet 68 = .ok (.iaload, 1) := by decide +kernel
theorem d_Packet_triplet_69 : decode b_Packet_triplet 69 = .ok (.iconst 1, 1) := by decide +kernel
theorem d_Packet_triplet_70 : decode b_Packet_triplet 70 = .ok (.iadd, 1) := by decide +kernel
theorem d_Packet_triplet_71 : decode b_Packet_triplet 71 = .ok (.iastore, 1) := by decide +kernel
theorem d_Packet_triplet_72 : decode b_Packet_triplet 72 = .ok (.iconst (-1), 1) := by decide +kernel
theorem d_Packet_triplet_73 : decode b_Packet_triplet 73 = .ok (.ireturn, 1) := by decide +kernel
theorem d_Packet_triplet_74 : decode b_Packet_triplet 74 = .ok (.aload_n 0, 1) := by decide +kernel
theorem d_Packet_triplet_75 : decode b_Packet_triplet 75 = .ok (.getfield 15, 3) := by decide +kernel
theorem d_Packet_triplet_78 : decode b_Packet_triplet 78 = .ok (.iconst 2, 1) := by decide +kernel
theorem d_Packet_triplet_79 : decode b_Packet_triplet 79 = .ok (.dup2, 1) := by decide +kernel
theorem d_Packet_triplet_80 : decode b_Packet_triplet 80 = .ok (.iaload, 1) := by decide +kernel
theorem d_Packet_triplet_81 : decode b_Packet_triplet 81 = .ok (.iconst 1, 1) := by decide +kernel
theorem d_Packet_triplet_82 : decode b_Packet_triplet 82 = .ok (.iadd, 1) := by decide +kernel
theorem d_Packet_triplet_83 : decode b_Packet_triplet 83 = .ok (.iastore, 1) := by decide +kernel
theorem d_Packet_triplet_84 : decode b_Packet_triplet 84 = .ok (.iload_n 3, 1) := by decide +kernel
theorem d_Packet_triplet_85 : decode b_Packet_triplet 85 = .ok (.ifCond .ne 8, 3) := by decide +kernel
theorem d_Packet_triplet_88 : decode b_Packet_triplet 88 = .ok (.bipush 24, 2) := by decide +kernel
theorem d_Packet_triplet_90 : decode b_Packet_triplet 90 = .ok (.goto 4, 3) := by decide +kernel
theorem d_Packet_triplet_93 : decode b_Packet_triplet 93 = .ok (.iload_n 3, 1) := by decide +kernel
theorem d_Packet_triplet_94 : decode b_Packet_triplet 94 = .ok (.istore 4, 2) := by decide +kernel
theorem d_Packet_triplet_96 : decode b_Packet_triplet 96 = .ok (.iload_n 2, 1) := by decide +kernel
theorem d_Packet_triplet_97 : decode b_Packet_triplet 97 = .ok (.iconst 1, 1) := by decide +kernel
theorem d_Packet_triplet_98 : decode b_Packet_triplet 98 = .ok (.iload 4, 2) := by decide +kernel
theorem d_Packet_triplet_100 : decode b_Packet_triplet 100 = .ok (.iconst 1, 1) := by decide +kernel
theorem d_Packet_triplet_101 : decode b_Packet_triplet 101 = .ok (.isub, 1) := by decide +kernel
theorem d_Packet_triplet_102 : decode b_Packet_triplet 102 = .ok (.ishl, 1) := by decide +kernel
theorem d_Packet_triplet_103 : decode b_Packet_triplet 103 = .ok (.ixor, 1) := by decide +kernel
theorem d_Packet_triplet_104 : decode b_Packet_triplet 104 = .ok (.invokestatic 41, 3) := by decide +kernel
theorem d_Packet_triplet_107 : decode b_Packet_triplet 107 = .ok (.ireturn, 1) := by decide +kernel
theorem d_Packet_failingSum_0 : decode b_Packet_failingSum 0 = .ok (.iconst 0, 1) := by decide +kernel
theorem d_Packet_failingSum_1 : decode b_Packet_failingSum 1 = .ok (.istore_n 1, 1) := by decide +kernel
theorem d_Packet_failingSum_2 : decode b_Packet_failingSum 2 = .ok (.iconst 0, 1) := by decide +kernel
theorem d_Packet_failingSum_3 : decode b_Packet_failingSum 3 = .ok (.istore_n 2, 1) := by decide +kernel
theorem d_Packet_failingSum_4 : decode b_Packet_failingSum 4 = .ok (.iload_n 2, 1) := by decide +kernel
theorem d_Packet_failingSum_5 : decode b_Packet_failingSum 5 = .ok (.getstatic 44, 3) := by decide +kernel
theorem d_Packet_failingSum_8 : decode b_Packet_failingSum 8 = .ok (.arraylength, 1) := by decide +kernel
theorem d_Packet_failingSum_9 : decode b_Packet_failingSum 9 = .ok (.if_icmp .ge 28, 3) := by decide +kernel
theorem d_Packet_failingSum_12 : decode b_Packet_failingSum 12 = .ok (.iload_n 0, 1) := by decide +kernel
theorem d_Packet_failingSum_13 : decode b_Packet_failingSum 13 = .ok (.getstatic 44, 3) := by decide +kernel
theorem d_Packet_failingSum_16 : decode b_Packet_failingSum 16 = .ok (.iload_n 2, 1) := by decide +kernel
theorem d_Packet_failingSum_17 : decode b_Packet_failingSum 17 = .ok (.iaload, 1) := by decide +kernel
theorem d_Packet_failingSum_18 : decode b_Packet_failingSum 18 = .ok (.iand, 1) := by decide +kernel
theorem d_Packet_failingSum_19 : decode b_Packet_failingSum 19 = .ok (.invokestatic 34, 3) := by decide +kernel
theorem d_Packet_failingSum_22 : decode b_Packet_failingSum 22 = .ok (.ifCond .ne 9, 3) := by decide +kernel
theorem d_Packet_failingSum_25 : decode b_Packet_failingSum 25 = .ok (.iload_n 1, 1) := by decide +kernel
theorem d_Packet_failingSum_26 : decode b_Packet_failingSum 26 = .ok (.iconst 1, 1) := by decide +kernel
theorem d_Packet_failingSum_27 : decode b_Packet_failingSum 27 = .ok (.iload_n 2, 1) := by decide +kernel
theorem d_Packet_failingSum_28 : decode b_Packet_failingSum 28 = .ok (.ishl, 1) := by decide +kernel
theorem d_Packet_failingSum_29 : decode b_Packet_failingSum 29 = .ok (.iadd, 1) := by decide +kernel
theorem d_Packet_failingSum_30 : decode b_Packet_failingSum 30 = .ok (.istore_n 1, 1) := by decide +kernel
theorem d_Packet_failingSum_31 : decode b_Packet_failingSum 31 = .ok (.iinc 2 1, 3) := by decide +kernel
theorem d_Packet_failingSum_34 : decode b_Packet_failingSum 34 = .ok (.goto (-30), 3) := by decide +kernel
theorem d_Packet_failingSum_37 : decode b_Packet_failingSum 37 = .ok (.iload_n 1, 1) := by decide +kernel
theorem d_Packet_failingSum_38 : decode b_Packet_failingSum 38 = .ok (.ireturn, 1) := by decide +kernel
theorem d_Packet_bitsOf_0 : decode b_Packet_bitsOf 0 = .ok (.iload_n 0, 1) := by decide +kernel
theorem d_Packet_bitsOf_1 : decode b_Packet_bitsOf 1 = .ok (.iconst 2, 1) := by decide +kernel
theorem d_Packet_bitsOf_2 : decode b_Packet_bitsOf 2 = .ok (.ishr, 1) := by decide +kernel
theorem d_Packet_bitsOf_3 : decode b_Packet_bitsOf 3 = .ok (.iconst 1, 1) := by decide +kernel
theorem d_Packet_bitsOf_4 : decode b_Packet_bitsOf 4 = .ok (.iand, 1) := by decide +kernel
theorem d_Packet_bitsOf_5 : decode b_Packet_bitsOf 5 = .ok (.iload_n 0, 1) := by decide +kernel
theorem d_Packet_bitsOf_6 : decode b_Packet_bitsOf 6 = .ok (.iconst 4, 1) := by decide +kernel
theorem d_Packet_bitsOf_7 : decode b_Packet_bitsOf 7 = .ok (.ishr, 1) := by decide +kernel
theorem d_Packet_bitsOf_8 : decode b_Packet_bitsOf 8 = .ok (.bipush 7, 2) := by decide +kernel
theorem d_Packet_bitsOf_10 : decode b_Packet_bitsOf 10 = .ok (.iand, 1) := by decide +kernel
theorem d_Packet_bitsOf_11 : decode b_Packet_bitsOf 11 = .ok (.iconst 1, 1) := by decide +kernel
theorem d_Packet_bitsOf_12 : decode b_Packet_bitsOf 12 = .ok (.ishl, 1) := by decide +kernel
theorem d_Packet_bitsOf_13 : decode b_Packet_bitsOf 13 = .ok (.ior, 1) := by decide +kernel
theorem d_Packet_bitsOf_14 : decode b_Packet_bitsOf 14 = .ok (.iload_n 0, 1) := by decide +kernel
theorem d_Packet_bitsOf_15 : decode b_Packet_bitsOf 15 = .ok (.bipush 8, 2) := by decide +kernel
theorem d_Packet_bitsOf_17 : decode b_Packet_bitsOf 17 = .ok (.ishr, 1) := by decide +kernel
theorem d_Packet_bitsOf_18 : decode b_Packet_bitsOf 18 = .ok (.bipush 127, 2) := by decide +kernel
theorem d_Packet_bitsOf_20 : decode b_Packet_bitsOf 20 = .ok (.iand, 1) := by decide +kernel
theorem d_Packet_bitsOf_21 : decode b_Packet_bitsOf 21 = .ok (.iconst 4, 1) := by decide +kernel
theorem d_Packet_bitsOf_22 : decode b_Packet_bitsOf 22 = .ok (.ishl, 1) := by decide +kernel
theorem d_Packet_bitsOf_23 : decode b_Packet_bitsOf 23 = .ok (.ior, 1) := by decide +kernel
theorem d_Packet_bitsOf_24 : decode b_Packet_bitsOf 24 = .ok (.iload_n 0, 1) := by decide +kernel
theorem d_Packet_bitsOf_25 : decode b_Packet_bitsOf 25 = .ok (.bipush 16, 2) := by decide +kernel
theorem d_Packet_bitsOf_27 : decode b_Packet_bitsOf 27 = .ok (.ishr, 1) := by decide +kernel
theorem d_Packet_bitsOf_28 : decode b_Packet_bitsOf 28 = .ok (.bipush 127, 2) := by decide +kernel
theorem d_Packet_bitsOf_30 : decode b_Packet_bitsOf 30 = .ok (.iand, 1) := by decide +kernel
theorem d_Packet_bitsOf_31 : decode b_Packet_bitsOf 31 = .ok (.bipush 11, 2) := by decide +kernel
theorem d_Packet_bitsOf_33 : decode b_Packet_bitsOf 33 = .ok (.ishl, 1) := by decide +kernel
theorem d_Packet_bitsOf_34 : decode b_Packet_bitsOf 34 = .ok (.ior, 1) := by decide +kernel
theorem d_Packet_bitsOf_35 : decode b_Packet_bitsOf 35 = .ok (.ireturn, 1) := by decide +kernel
theorem d_Tuner_takeTriplet_0 : decode b_Tuner_takeTriplet 0 = .ok (.iload_n 2, 1) := by decide +kernel
theorem d_Tuner_takeTriplet_1 : decode b_Tuner_takeTriplet 1 = .ok (.bipush 63, 2) := by decide +kernel
theorem d_Tuner_takeTriplet_3 : decode b_Tuner_takeTriplet 3 = .ok (.iand, 1) := by decide +kernel
theorem d_Tuner_takeTriplet_4 : decode b_Tuner_takeTriplet 4 = .ok (.istore_n 3, 1) := by decide +kernel
theorem d_Tuner_takeTriplet_5 : decode b_Tuner_takeTriplet 5 = .ok (.iload_n 2, 1) := by decide +kernel
theorem d_Tuner_takeTriplet_6 : decode b_Tuner_takeTriplet 6 = .ok (.bipush 6, 2) := by decide +kernel
theorem d_Tuner_takeTriplet_8 : decode b_Tuner_takeTriplet 8 = .ok (.ishr, 1) := by decide +kernel
theorem d_Tuner_takeTriplet_9 : decode b_Tuner_takeTriplet 9 = .ok (.bipush 31, 2) := by decide +kernel
theorem d_Tuner_takeTriplet_11 : decode b_Tuner_takeTriplet 11 = .ok (.iand, 1) := by decide +kernel
theorem d_Tuner_takeTriplet_12 : decode b_Tuner_takeTriplet 12 = .ok (.istore 4, 2) := by decide +kernel
theorem d_Tuner_takeTriplet_14 : decode b_Tuner_takeTriplet 14 = .ok (.iload_n 2, 1) := by decide +kernel
theorem d_Tuner_takeTriplet_15 : decode b_Tuner_takeTriplet 15 = .ok (.bipush 11, 2) := by decide +kernel
theorem d_Tuner_takeTriplet_17 : decode b_Tuner_takeTriplet 17 = .ok (.ishr, 1) := by decide +kernel
theorem d_Tuner_takeTriplet_18 : decode b_Tuner_takeTriplet 18 = .ok (.bipush 127, 2) := by decide +kernel
theorem d_Tuner_takeTriplet_20 : decode b_Tuner_takeTriplet 20 = .ok (.iand, 1) := by decide +kernel
theorem d_Tuner_takeTriplet_21 : decode b_Tuner_takeTriplet 21 = .ok (.istore 5, 2) := by decide +kernel
theorem d_Tuner_takeTriplet_23 : decode b_Tuner_takeTriplet 23 = .ok (.iload_n 3, 1) := by decide +kernel
theorem d_Tuner_takeTriplet_24 : decode b_Tuner_takeTriplet 24 = .ok (.bipush 40, 2) := by decide +kernel
theorem d_Tuner_takeTriplet_26 : decode b_Tuner_takeTriplet 26 = .ok (.if_icmp .lt 20, 3) := by decide +kernel
theorem d_Tuner_takeTriplet_29 : decode b_Tuner_takeTriplet 29 = .ok (.iload_n 3, 1) := by decide +kernel
theorem d_Tuner_takeTriplet_30 : decode b_Tuner_takeTriplet 30 = .ok (.bipush 47, 2) := by decide +kernel
theorem d_Tuner_takeTriplet_32 : decode b_Tuner_takeTriplet 32 = .ok (.if_icmp .gt 14, 3) := by decide +kernel
theorem d_Tuner_takeTriplet_35 : decode b_Tuner_takeTriplet 35 = .ok (.iload 4, 2) := by decide +kernel
theorem d_Tuner_takeTriplet_37 : decode b_Tuner_takeTriplet 37 = .ok (.iconst 4, 1) := by decide +kernel
theorem d_Tuner_takeTriplet_38 : decode b_Tuner_takeTriplet 38 = .ok (.if_icmp .ne 8, 3) := by decide +kernel
theorem d_Tuner_takeTriplet_41 : decode b_Tuner_takeTriplet 41 = .ok (.iload_n 3, 1) := by decide +kernel
theorem d_Tuner_takeTriplet_42 : decode b_Tuner_takeTriplet 42 = .ok (.bipush 40, 2) := by decide +kernel
theorem d_Tuner_takeTriplet_44 : decode b_Tuner_takeTriplet 44 = .ok (.isub, 1) := by decide +kernel
theorem d_Tuner_takeTriplet_45 : decode b_Tuner_takeTriplet 45 = .ok (.ireturn, 1) := by decide +kernel
theorem d_Tuner_takeTriplet_46 : decode b_Tuner_takeTriplet 46 = .ok (.iload_n 3, 1) := by decide +kernel
theorem d_Tuner_takeTriplet_47 : decode b_Tuner_takeTriplet 47 = .ok (.bipush 20, 2) := by decide +kernel
theorem d_Tuner_takeTriplet_49 : decode b_Tuner_takeTriplet 49 = .ok (.if_icmp .ge 25, 3) := by decide +kernel
theorem d_Tuner_takeTriplet_52 : decode b_Tuner_takeTriplet 52 = .ok (.iload 4, 2) := by decide +kernel
theorem d_Tuner_takeTriplet_54 : decode b_Tuner_takeTriplet 54 = .ok (.bipush 15, 2) := by decide +kernel
theorem d_Tuner_takeTriplet_56 : decode b_Tuner_takeTriplet 56 = .ok (.if_icmp .ne 18, 3) := by decide +kernel
theorem d_Tuner_takeTriplet_59 : decode b_Tuner_takeTriplet 59 = .ok (.aload_n 0, 1) := by decide +kernel
theorem d_Tuner_takeTriplet_60 : decode b_Tuner_takeTriplet 60 = .ok (.iload_n 1, 1) := by decide +kernel
theorem d_Tuner_takeTriplet_61 : decode b_Tuner_takeTriplet 61 = .ok (.iload_n 3, 1) := by decide +kernel
theorem d_Tuner_takeTriplet_62 : decode b_Tuner_takeTriplet 62 = .ok (.iload 5, 2) := by decide +kernel
theorem d_Tuner_takeTriplet_64 : decode b_Tuner_takeTriplet 64 = .ok (.sipush 128, 3) := by decide +kernel
theorem d_Tuner_takeTriplet_67 : decode b_Tuner_takeTriplet 67 = .ok (.iadd, 1) := by decide +kernel
theorem d_Tuner_takeTriplet_68 : decode b_Tuner_takeTriplet 68 = .ok (.invokevirtual 131, 3) := by decide +kernel
theorem d_Tuner_takeTriplet_71 : decode b_Tuner_takeTriplet 71 = .ok (.goto 34, 3) := by decide +kernel
theorem d_Tuner_takeTriplet_74 : decode b_Tuner_takeTriplet 74 = .ok (.iload_n 3, 1) := by decide +kernel
theorem d_Tuner_takeTriplet_75 : decode b_Tuner_takeTriplet 75 = .ok (.bipush 20, 2) := by decide +kernel
theorem d_Tuner_takeTriplet_77 : decode b_Tuner_takeTriplet 77 = .ok (.if_icmp .ge 28, 3) := by decide +kernel
theorem d_Tuner_takeTriplet_80 : decode b_Tuner_takeTriplet 80 = .ok (.iload 4, 2) := by decide +kernel
theorem d_Tuner_takeTriplet_82 : decode b_Tuner_takeTriplet 82 = .ok (.bipush 16, 2) := by decide +kernel
theorem d_Tuner_takeTriplet_84 : decode b_Tuner_takeTriplet 84 = .ok (.if_icmp .lt 21, 3) := by decide +kernel
theorem d_Tuner_takeTriplet_87 : decode b_Tuner_takeTriplet 87 = .ok (.aload_n 0, 1) := by decide +kernel
theorem d_Tuner_takeTriplet_88 : decode b_Tuner_takeTriplet 88 = .ok (.iload_n 1, 1) := by decide +kernel
theorem d_Tuner_takeTriplet_89 : decode b_Tuner_takeTriplet 89 = .ok (.iload_n 3, 1) := by decide +kernel
theorem d_Tuner_takeTriplet_90 : decode b_Tuner_takeTriplet 90 = .ok (.iload 5, 2) := by decide +kernel
theorem d_Tuner_takeTriplet_92 : decode b_Tuner_takeTriplet 92 = .ok (.sipush 256, 3) := by decide +kernel
theorem d_Tuner_takeTriplet_95 : decode b_Tuner_takeTriplet 95 = .ok (.iload 4, 2) := by decide +kernel
theorem d_Tuner_takeTriplet_97 : decode b_Tuner_takeTriplet 97 = .ok (.bipush 15, 2) := by decide +kernel
theorem d_Tuner_takeTriplet_99 : decode b_Tuner_takeTriplet 99 = .ok (.isub, 1) := by decide +kernel
theorem d_Tuner_takeTriplet_100 : decode b_Tuner_takeTriplet 100 = .ok (.imul, 1) := by decide +kernel
theorem d_Tuner_takeTriplet_101 : decode b_Tuner_takeTriplet 101 = .ok (.iadd, 1) := by decide +kernel
theorem d_Tuner_takeTriplet_102 : decode b_Tuner_takeTriplet 102 = .ok (.invokevirtual 131, 3) := by decide +kernel
theorem d_Tuner_takeTriplet_105 : decode b_Tuner_takeTriplet 105 = .ok (.iload_n 1, 1) := by decide +kernel
theorem d_Tuner_takeTriplet_106 : decode b_Tuner_takeTriplet 106 = .ok (.ireturn, 1) := by decide +kernel
theorem d_Page_setOverlay_0 : decode b_Page_setOverlay 0 = .ok (.iload_n 1, 1) := by decide +kernel
theorem d_Page_setOverlay_1 : decode b_Page_setOverlay 1 = .ok (.iload_n 2, 1) := by decide +kernel
theorem d_Page_setOverlay_2 : decode b_Page_setOverlay 2 = .ok (.invokestatic 50, 3) := by decide +kernel
theorem d_Page_setOverlay_5 : decode b_Page_setOverlay 5 = .ok (.ifCond .eq 15, 3) := by decide +kernel
theorem d_Page_setOverlay_8 : decode b_Page_setOverlay 8 = .ok (.aload_n 0, 1) := by decide +kernel
theorem d_Page_setOverlay_9 : decode b_Page_setOverlay 9 = .ok (.getfield 15, 3) := by decide +kernel
theorem d_Page_setOverlay_12 : decode b_Page_setOverlay 12 = .ok (.iload_n 1, 1) := by decide +kernel
theorem d_Page_setOverlay_13 : decode b_Page_setOverlay 13 = .ok (.bipush 20, 2) := by decide +kernel
theorem d_Page_setOverlay_15 : decode b_Page_setOverlay 15 = .ok (.imul, 1) := by decide +kernel
theorem d_Page_setOverlay_16 : decode b_Page_setOverlay 16 = .ok (.iload_n 2, 1) := by decide +kernel
theorem d_Page_setOverlay_17 : decode b_Page_setOverlay 17 = .ok (.iadd, 1) := by decide +kernel
theorem d_Page_setOverlay_18 : decode b_Page_setOverlay 18 = .ok (.iload_n 3, 1) := by decide +kernel
theorem d_Page_setOverlay_19 : decode b_Page_setOverlay 19 = .ok (.iastore, 1) := by decide +kernel
theorem d_Page_setOverlay_20 : decode b_Page_setOverlay 20 = .ok (.return_, 1) := by decide +kernel
theorem d_Tuner_takeLinks_0 : decode b_Tuner_takeLinks 0 = .ok (.iconst 0, 1) := by decide +kernel
theorem d_Tuner_takeLinks_1 : decode b_Tuner_takeLinks 1 = .ok (.istore_n 3, 1) := by decide +kernel
theorem d_Tuner_takeLinks_2 : decode b_Tuner_takeLinks 2 = .ok (.iload_n 3, 1) := by decide +kernel
theorem d_Tuner_takeLinks_3 : decode b_Tuner_takeLinks 3 = .ok (.iconst 4, 1) := by decide +kernel
theorem d_Tuner_takeLinks_4 : decode b_Tuner_takeLinks 4 = .ok (.if_icmp .ge 95, 3) := by decide +kernel
theorem d_Tuner_takeLinks_7 : decode b_Tuner_takeLinks 7 = .ok (.aload_n 0, 1) := by decide +kernel
theorem d_Tuner_takeLinks_8 : decode b_Tuner_takeLinks 8 = .ok (.getfield 24, 3) := by decide +kernel
theorem d_Tuner_takeLinks_11 : decode b_Tuner_takeLinks 11 = .ok (.iconst 2, 1) := by decide +kernel
theorem d_Tuner_takeLinks_12 : decode b_Tuner_takeLinks 12 = .ok (.iconst 3, 1) := by decide +kernel
theorem d_Tuner_takeLinks_13 : decode b_Tuner_takeLinks 13 = .ok (.iload_n 3, 1) := by decide +kernel
theorem d_Tuner_takeLinks_14 : decode b_Tuner_takeLinks 14 = .ok (.imul, 1) := by decide +kernel
theorem d_Tuner_takeLinks_15 : decode b_Tuner_takeLinks 15 = .ok (.iadd, 1) := by decide +kernel
theorem d_Tuner_takeLinks_16 : decode b_Tuner_takeLinks 16 = .ok (.invokevirtual 46, 3) := by decide +kernel
theorem d_Tuner_takeLinks_19 : decode b_Tuner_takeLinks 19 = .ok (.istore 4, 2) := by decide +kernel
theorem d_Tuner_takeLinks_21 : decode b_Tuner_takeLinks 21 = .ok (.aload_n 0, 1) := by decide +kernel
theorem d_Tuner_takeLinks_22 : decode b_Tuner_takeLinks 22 = .ok (.getfield 24, 3) := by decide +kernel
theorem d_Tuner_takeLinks_25 : decode b_Tuner_takeLinks 25 = .ok (.iconst 3, 1) := by decide +kernel
theorem d_Tuner_takeLinks_26 : decode b_Tuner_takeLinks 26 = .ok (.iconst 3, 1) := by decide +kernel
theorem d_Tuner_takeLinks_27 : decode b_Tuner_takeLinks 27 = .ok (.iload_n 3, 1) := by decide +kernel
theorem d_Tuner_takeLinks_28 : decode b_Tuner_takeLinks 28 = .ok (.imul, 1) := by decide +kernel
theorem d_Tuner_takeLinks_29 : decode b_Tuner_takeLinks 29 = .ok (.iadd, 1) := by decide +kernel
theorem d_Tuner_takeLinks_30 : decode b_Tuner_takeLinks 30 = .ok (.invokevirtual 46, 3) := by decide +kernel
theorem d_Tuner_takeLinks_33 : decode b_Tuner_takeLinks 33 = .ok (.istore 5, 2) := by decide +kernel
theorem d_Tuner_takeLinks_35 : decode b_Tuner_takeLinks 35 = .ok (.aload_n 0, 1) := by decide +kernel
theorem d_Tuner_takeLinks_36 : decode b_Tuner_takeLinks 36 = .ok (.getfield 24, 3) := by decide +kernel
theorem d_Tuner_takeLinks_39 : decode b_Tuner_takeLinks 39 = .ok (.iconst 4, 1) := by decide +kernel
theorem d_Tuner_takeLinks_40 : decode b_Tuner_takeLinks 40 = .ok (.iconst 3, 1) := by decide +kernel
theorem d_Tuner_takeLinks_41 : decode b_Tuner_takeLinks 41 = .ok (.iload_n 3, 1) := by decide +kernel
theorem d_Tuner_takeLinks_42 : decode b_Tuner_takeLinks 42 = .ok (.imul, 1) := by decide +kernel
theorem d_Tuner_takeLinks_43 : decode b_Tuner_takeLinks 43 = .ok (.iadd, 1) := by decide +kernel
theorem d_Tuner_takeLinks_44 : decode b_Tuner_takeLinks 44 = .ok (.invokevirtual 46, 3) := by decide +kernel
theorem d_Tuner_takeLinks_47 : decode b_Tuner_takeLinks 47 = .ok (.istore 6, 2) := by decide +kernel
theorem d_Tuner_takeLinks_49 : decode b_Tuner_takeLinks 49 = .ok (.iload 4, 2) := by decide +kernel
theorem d_Tuner_takeLinks_51 : decode b_Tuner_takeLinks 51 = .ok (.iconst (-1), 1) := by decide +kernel
theorem d_Tuner_takeLinks_52 : decode b_Tuner_takeLinks 52 = .ok (.if_icmp .eq 41, 3) := by decide +kernel
theorem d_Tuner_takeLinks_55 : decode b_Tuner_takeLinks 55 = .ok (.iload 5, 2) := by decide +kernel
theorem d_Tuner_takeLinks_57 : decode b_Tuner_takeLinks 57 = .ok (.iconst (-1), 1) := by decide +kernel
theorem d_Tuner_takeLinks_58 : decode b_Tuner_takeLinks 58 = .ok (.if_icmp .eq 35, 3) := by decide +kernel
theorem d_Tuner_takeLinks_61 : decode b_Tuner_takeLinks 61 = .ok (.iload 6, 2) := by decide +kernel
theorem d_Tuner_takeLinks_63 : decode b_Tuner_takeLinks 63 = .ok (.iconst (-1), 1) := by decide +kernel
theorem d_Tuner_takeLinks_64 : decode b_Tuner_takeLinks 64 = .ok (.if_icmp .eq 29, 3) := by decide +kernel
theorem d_Tuner_takeLinks_67 : decode b_Tuner_takeLinks 67 = .ok (.aload_n 1, 1) := by decide +kernel
theorem d_Tuner_takeLinks_68 : decode b_Tuner_takeLinks 68 = .ok (.getfield 134, 3) := by decide +kernel
theorem d_Tuner_takeLinks_71 : decode b_Tuner_takeLinks 71 = .ok (.iload_n 3, 1) := by decide +kernel
theorem d_Tuner_takeLinks_72 : decode b_Tuner_takeLinks 72 = .ok (.sipush 256, 3) := by decide +kernel
theorem d_Tuner_takeLinks_75 : decode b_Tuner_takeLinks 75 = .ok (.iload_n 2, 1) := by decide +kernel
theorem d_Tuner_takeLinks_76 : decode b_Tuner_takeLinks 76 = .ok (.iload 6, 2) := by decide +kernel
theorem d_Tuner_takeLinks_78 : decode b_Tuner_takeLinks 78 = .ok (.ixor, 1) := by decide +kernel
theorem d_Tuner_takeLinks_79 : decode b_Tuner_takeLinks 79 = .ok (.bipush 8, 2) := by decide +kernel
theorem d_Tuner_takeLinks_81 : decode b_Tuner_takeLinks 81 = .ok (.irem, 1) := by decide +kernel
theorem d_Tuner_takeLinks_82 : decode b_Tuner_takeLinks 82 = .ok (.imul, 1) := by decide +kernel
theorem d_Tuner_takeLinks_83 : decode b_Tuner_takeLinks 83 = .ok (.bipush 16, 2) := by decide +kernel
theorem d_Tuner_takeLinks_85 : decode b_Tuner_takeLinks 85 = .ok (.iload 5, 2) := by decide +kernel
theorem d_Tuner_takeLinks_87 : decode b_Tuner_takeLinks 87 = .ok (.imul, 1) := by decide +kernel
theorem d_Tuner_takeLinks_88 : decode b_Tuner_takeLinks 88 = .ok (.iadd, 1) := by decide +kernel
theorem d_Tuner_takeLinks_89 : decode b_Tuner_takeLinks 89 = .ok (.iload 4, 2) := by decide +kernel
theorem d_Tuner_takeLinks_91 : decode b_Tuner_takeLinks 91 = .ok (.iadd, 1) := by decide +kernel
theorem d_Tuner_takeLinks_92 : decode b_Tuner_takeLinks 92 = .ok (.iastore, 1) := by decide +kernel
theorem d_Tuner_takeLinks_93 : decode b_Tuner_takeLinks 93 = .ok (.iinc 3 1, 3) := by decide +kernel
theorem d_Tuner_takeLinks_96 : decode b_Tuner_takeLinks 96 = .ok (.goto (-94), 3) := by decide +kernel
theorem d_Tuner_takeLinks_99 : decode b_Tuner_takeLinks 99 = .ok (.return_, 1) := by decide +kernel
