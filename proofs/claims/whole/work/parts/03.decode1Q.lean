theorem zd_Q_init_0 : decode zc_Q_init 0 = .ok (.aload_n 0, 1) := by decide +kernel
theorem zd_Q_init_1 : decode zc_Q_init 1 = .ok (.invokespecial 3, 3) := by decide +kernel
theorem zd_Q_init_4 : decode zc_Q_init 4 = .ok (.aload_n 0, 1) := by decide +kernel
theorem zd_Q_init_5 : decode zc_Q_init 5 = .ok (.aload_n 1, 1) := by decide +kernel
theorem zd_Q_init_6 : decode zc_Q_init 6 = .ok (.putfield 9, 3) := by decide +kernel
theorem zd_Q_init_9 : decode zc_Q_init 9 = .ok (.aload_n 0, 1) := by decide +kernel
theorem zd_Q_init_10 : decode zc_Q_init 10 = .ok (.bipush 16, 2) := by decide +kernel
theorem zd_Q_init_12 : decode zc_Q_init 12 = .ok (.newarray .int, 2) := by decide +kernel
theorem zd_Q_init_14 : decode zc_Q_init 14 = .ok (.putfield 15, 3) := by decide +kernel
theorem zd_Q_init_17 : decode zc_Q_init 17 = .ok (.aload_n 0, 1) := by decide +kernel
theorem zd_Q_init_18 : decode zc_Q_init 18 = .ok (.bipush 16, 2) := by decide +kernel
theorem zd_Q_init_20 : decode zc_Q_init 20 = .ok (.newarray .int, 2) := by decide +kernel
theorem zd_Q_init_22 : decode zc_Q_init 22 = .ok (.putfield 19, 3) := by decide +kernel
theorem zd_Q_init_25 : decode zc_Q_init 25 = .ok (.aload_n 0, 1) := by decide +kernel
theorem zd_Q_init_26 : decode zc_Q_init 26 = .ok (.bipush 16, 2) := by decide +kernel
theorem zd_Q_init_28 : decode zc_Q_init 28 = .ok (.newarray .int, 2) := by decide +kernel
theorem zd_Q_init_30 : decode zc_Q_init 30 = .ok (.putfield 22, 3) := by decide +kernel
theorem zd_Q_init_33 : decode zc_Q_init 33 = .ok (.aload_n 0, 1) := by decide +kernel
theorem zd_Q_init_34 : decode zc_Q_init 34 = .ok (.bipush 16, 2) := by decide +kernel
theorem zd_Q_init_36 : decode zc_Q_init 36 = .ok (.newarray .int, 2) := by decide +kernel
theorem zd_Q_init_38 : decode zc_Q_init 38 = .ok (.putfield 25, 3) := by decide +kernel
theorem zd_Q_init_41 : decode zc_Q_init 41 = .ok (.aload_n 0, 1) := by decide +kernel
theorem zd_Q_init_42 : decode zc_Q_init 42 = .ok (.bipush 16, 2) := by decide +kernel
theorem zd_Q_init_44 : decode zc_Q_init 44 = .ok (.newarray .int, 2) := by decide +kernel
theorem zd_Q_init_46 : decode zc_Q_init 46 = .ok (.putfield 28, 3) := by decide +kernel
theorem zd_Q_init_49 : decode zc_Q_init 49 = .ok (.aload_n 0, 1) := by decide +kernel
theorem zd_Q_init_50 : decode zc_Q_init 50 = .ok (.bipush 16, 2) := by decide +kernel
theorem zd_Q_init_52 : decode zc_Q_init 52 = .ok (.newarray .int, 2) := by decide +kernel
theorem zd_Q_init_54 : decode zc_Q_init 54 = .ok (.putfield 31, 3) := by decide +kernel
theorem zd_Q_init_57 : decode zc_Q_init 57 = .ok (.aload_n 0, 1) := by decide +kernel
theorem zd_Q_init_58 : decode zc_Q_init 58 = .ok (.bipush 16, 2) := by decide +kernel
theorem zd_Q_init_60 : decode zc_Q_init 60 = .ok (.newarray .int, 2) := by decide +kernel
theorem zd_Q_init_62 : decode zc_Q_init 62 = .ok (.putfield 34, 3) := by decide +kernel
theorem zd_Q_init_65 : decode zc_Q_init 65 = .ok (.aload_n 0, 1) := by decide +kernel
theorem zd_Q_init_66 : decode zc_Q_init 66 = .ok (.bipush 16, 2) := by decide +kernel
theorem zd_Q_init_68 : decode zc_Q_init 68 = .ok (.newarray .int, 2) := by decide +kernel
theorem zd_Q_init_70 : decode zc_Q_init 70 = .ok (.putfield 37, 3) := by decide +kernel
theorem zd_Q_init_73 : decode zc_Q_init 73 = .ok (.return_, 1) := by decide +kernel
theorem zd_Q_begin_0 : decode zc_Q_begin 0 = .ok (.aload_n 0, 1) := by decide +kernel
theorem zd_Q_begin_1 : decode zc_Q_begin 1 = .ok (.getfield 15, 3) := by decide +kernel
theorem zd_Q_begin_4 : decode zc_Q_begin 4 = .ok (.iconst (-1), 1) := by decide +kernel
theorem zd_Q_begin_5 : decode zc_Q_begin 5 = .ok (.invokestatic 40, 3) := by decide +kernel
theorem zd_Q_begin_8 : decode zc_Q_begin 8 = .ok (.aload_n 0, 1) := by decide +kernel
theorem zd_Q_begin_9 : decode zc_Q_begin 9 = .ok (.getfield 19, 3) := by decide +kernel
theorem zd_Q_begin_12 : decode zc_Q_begin 12 = .ok (.iconst 0, 1) := by decide +kernel
theorem zd_Q_begin_13 : decode zc_Q_begin 13 = .ok (.invokestatic 40, 3) := by decide +kernel
theorem zd_Q_begin_16 : decode zc_Q_begin 16 = .ok (.aload_n 0, 1) := by decide +kernel
theorem zd_Q_begin_17 : decode zc_Q_begin 17 = .ok (.getfield 22, 3) := by decide +kernel
theorem zd_Q_begin_20 : decode zc_Q_begin 20 = .ok (.iconst 0, 1) := by decide +kernel
theorem zd_Q_begin_21 : decode zc_Q_begin 21 = .ok (.invokestatic 40, 3) := by decide +kernel
theorem zd_Q_begin_24 : decode zc_Q_begin 24 = .ok (.aload_n 0, 1) := by decide +kernel
theorem zd_Q_begin_25 : decode zc_Q_begin 25 = .ok (.getfield 25, 3) := by decide +kernel
theorem zd_Q_begin_28 : decode zc_Q_begin 28 = .ok (.iconst 0, 1) := by decide +kernel
theorem zd_Q_begin_29 : decode zc_Q_begin 29 = .ok (.invokestatic 40, 3) := by decide +kernel
theorem zd_Q_begin_32 : decode zc_Q_begin 32 = .ok (.aload_n 0, 1) := by decide +kernel
theorem zd_Q_begin_33 : decode zc_Q_begin 33 = .ok (.getfield 28, 3) := by decide +kernel
theorem zd_Q_begin_36 : decode zc_Q_begin 36 = .ok (.iconst 0, 1) := by decide +kernel
theorem zd_Q_begin_37 : decode zc_Q_begin 37 = .ok (.invokestatic 40, 3) := by decide +kernel
theorem zd_Q_begin_40 : decode zc_Q_begin 40 = .ok (.aload_n 0, 1) := by decide +kernel
theorem zd_Q_begin_41 : decode zc_Q_begin 41 = .ok (.getfield 31, 3) := by decide +kernel
theorem zd_Q_begin_44 : decode zc_Q_begin 44 = .ok (.iconst (-1), 1) := by decide +kernel
theorem zd_Q_begin_45 : decode zc_Q_begin 45 = .ok (.invokestatic 40, 3) := by decide +kernel
theorem zd_Q_begin_48 : decode zc_Q_begin 48 = .ok (.aload_n 0, 1) := by decide +kernel
theorem zd_Q_begin_49 : decode zc_Q_begin 49 = .ok (.getfield 34, 3) := by decide +kernel
theorem zd_Q_begin_52 : decode zc_Q_begin 52 = .ok (.iconst 0, 1) := by decide +kernel
theorem zd_Q_begin_53 : decode zc_Q_begin 53 = .ok (.invokestatic 40, 3) := by decide +kernel
theorem zd_Q_begin_56 : decode zc_Q_begin 56 = .ok (.aload_n 0, 1) := by decide +kernel
theorem zd_Q_begin_57 : decode zc_Q_begin 57 = .ok (.iconst 1, 1) := by decide +kernel
theorem zd_Q_begin_58 : decode zc_Q_begin 58 = .ok (.bipush 16, 2) := by decide +kernel
theorem zd_Q_begin_60 : decode zc_Q_begin 60 = .ok (.iload_n 1, 1) := by decide +kernel
theorem zd_Q_begin_61 : decode zc_Q_begin 61 = .ok (.invokestatic 46, 3) := by decide +kernel
theorem zd_Q_begin_64 : decode zc_Q_begin 64 = .ok (.invokestatic 52, 3) := by decide +kernel
theorem zd_Q_begin_67 : decode zc_Q_begin 67 = .ok (.putfield 55, 3) := by decide +kernel
theorem zd_Q_begin_70 : decode zc_Q_begin 70 = .ok (.aload_n 0, 1) := by decide +kernel
theorem zd_Q_begin_71 : decode zc_Q_begin 71 = .ok (.iconst 0, 1) := by decide +kernel
theorem zd_Q_begin_72 : decode zc_Q_begin 72 = .ok (.putfield 59, 3) := by decide +kernel
theorem zd_Q_begin_75 : decode zc_Q_begin 75 = .ok (.aload_n 0, 1) := by decide +kernel
theorem zd_Q_begin_76 : decode zc_Q_begin 76 = .ok (.iconst 0, 1) := by decide +kernel
theorem zd_Q_begin_77 : decode zc_Q_begin 77 = .ok (.putfield 62, 3) := by decide +kernel
theorem zd_Q_begin_80 : decode zc_Q_begin 80 = .ok (.aload_n 0, 1) := by decide +kernel
theorem zd_Q_begin_81 : decode zc_Q_begin 81 = .ok (.aload_n 0, 1) := by decide +kernel
theorem zd_Q_begin_82 : decode zc_Q_begin 82 = .ok (.getfield 9, 3) := by decide +kernel
theorem zd_Q_begin_85 : decode zc_Q_begin 85 = .ok (.invokevirtual 65, 3) := by decide +kernel
theorem zd_Q_begin_88 : decode zc_Q_begin 88 = .ok (.putfield 71, 3) := by decide +kernel
theorem zd_Q_begin_91 : decode zc_Q_begin 91 = .ok (.aload_n 0, 1) := by decide +kernel
theorem zd_Q_begin_92 : decode zc_Q_begin 92 = .ok (.iconst 0, 1) := by decide +kernel
theorem zd_Q_begin_93 : decode zc_Q_begin 93 = .ok (.putfield 74, 3) := by decide +kernel
theorem zd_Q_begin_96 : decode zc_Q_begin 96 = .ok (.aload_n 0, 1) := by decide +kernel
theorem zd_Q_begin_97 : decode zc_Q_begin 97 = .ok (.iconst 0, 1) := by decide +kernel
theorem zd_Q_begin_98 : decode zc_Q_begin 98 = .ok (.putfield 77, 3) := by decide +kernel
theorem zd_Q_begin_101 : decode zc_Q_begin 101 = .ok (.aload_n 0, 1) := by decide +kernel
theorem zd_Q_begin_102 : decode zc_Q_begin 102 = .ok (.lload_n 2, 1) := by decide +kernel
theorem zd_Q_begin_103 : decode zc_Q_begin 103 = .ok (.putfield 80, 3) := by decide +kernel
theorem zd_Q_begin_106 : decode zc_Q_begin 106 = .ok (.return_, 1) := by decide +kernel
theorem zd_Q_endsWithin_0 : decode zc_Q_endsWithin 0 = .ok (.iconst 0, 1) := by decide +kernel
theorem zd_Q_endsWithin_1 : decode zc_Q_endsWithin 1 = .ok (.istore_n 2, 1) := by decide +kernel
theorem zd_Q_endsWithin_2 : decode zc_Q_endsWithin 2 = .ok (.iload_n 2, 1) := by decide +kernel
theorem zd_Q_endsWithin_3 : decode zc_Q_endsWithin 3 = .ok (.iload_n 1, 1) := by decide +kernel
theorem zd_Q_endsWithin_4 : decode zc_Q_endsWithin 4 = .ok (.if_icmp .ge 20, 3) := by decide +kernel
theorem zd_Q_endsWithin_7 : decode zc_Q_endsWithin 7 = .ok (.aload_n 0, 1) := by decide +kernel
theorem zd_Q_endsWithin_8 : decode zc_Q_endsWithin 8 = .ok (.invokevirtual 84, 3) := by decide +kernel
theorem zd_Q_endsWithin_11 : decode zc_Q_endsWithin 11 = .ok (.ifCond .le 13, 3) := by decide +kernel
theorem zd_Q_endsWithin_14 : decode zc_Q_endsWithin 14 = .ok (.aload_n 0, 1) := by decide +kernel
theorem zd_Q_endsWithin_15 : decode zc_Q_endsWithin 15 = .ok (.invokevirtual 87, 3) := by decide +kernel
theorem zd_Q_endsWithin_18 : decode zc_Q_endsWithin 18 = .ok (.iinc 2 1, 3) := by decide +kernel
theorem zd_Q_endsWithin_21 : decode zc_Q_endsWithin 21 = .ok (.goto (-19), 3) := by decide +kernel
theorem zd_Q_endsWithin_24 : decode zc_Q_endsWithin 24 = .ok (.aload_n 0, 1) := by decide +kernel
theorem zd_Q_endsWithin_25 : decode zc_Q_endsWithin 25 = .ok (.invokevirtual 84, 3) := by decide +kernel
theorem zd_Q_endsWithin_28 : decode zc_Q_endsWithin 28 = .ok (.ifCond .ne 7, 3) := by decide +kernel
theorem zd_Q_endsWithin_31 : decode zc_Q_endsWithin 31 = .ok (.iconst 1, 1) := by decide +kernel
theorem zd_Q_endsWithin_32 : decode zc_Q_endsWithin 32 = .ok (.goto 4, 3) := by decide +kernel
theorem zd_Q_endsWithin_35 : decode zc_Q_endsWithin 35 = .ok (.iconst 0, 1) := by decide +kernel
theorem zd_Q_endsWithin_36 : decode zc_Q_endsWithin 36 = .ok (.ireturn, 1) := by decide +kernel
theorem zd_Q_someShareWaits_0 : decode zc_Q_someShareWaits 0 = .ok (.aload_n 0, 1) := by decide +kernel
theorem zd_Q_someShareWaits_1 : decode zc_Q_someShareWaits 1 = .ok (.getfield 62, 3) := by decide +kernel
theorem zd_Q_someShareWaits_4 : decode zc_Q_someShareWaits 4 = .ok (.aload_n 0, 1) := by decide +kernel
theorem zd_Q_someShareWaits_5 : decode zc_Q_someShareWaits 5 = .ok (.getfield 71, 3) := by decide +kernel
theorem zd_Q_someShareWaits_8 : decode zc_Q_someShareWaits 8 = .ok (.if_icmp .ge 7, 3) := by decide +kernel
theorem zd_Q_someShareWaits_11 : decode zc_Q_someShareWaits 11 = .ok (.iconst 1, 1) := by decide +kernel
theorem zd_Q_someShareWaits_12 : decode zc_Q_someShareWaits 12 = .ok (.goto 4, 3) := by decide +kernel
theorem zd_Q_someShareWaits_15 : decode zc_Q_someShareWaits 15 = .ok (.iconst 0, 1) := by decide +kernel
theorem zd_Q_someShareWaits_16 : decode zc_Q_someShareWaits 16 = .ok (.ireturn, 1) := by decide +kernel
theorem zd_Q_movers_0 : decode zc_Q_movers 0 = .ok (.aload_n 0, 1) := by decide +kernel
theorem zd_Q_movers_1 : decode zc_Q_movers 1 = .ok (.invokevirtual 90, 3) := by decide +kernel
theorem zd_Q_movers_4 : decode zc_Q_movers 4 = .ok (.ifCond .eq 10, 3) := by decide +kernel
theorem zd_Q_movers_7 : decode zc_Q_movers 7 = .ok (.aload_n 0, 1) := by decide +kernel
theorem zd_Q_movers_8 : decode zc_Q_movers 8 = .ok (.getfield 55, 3) := by decide +kernel
theorem zd_Q_movers_11 : decode zc_Q_movers 11 = .ok (.goto 7, 3) := by decide +kernel
theorem zd_Q_movers_14 : decode zc_Q_movers 14 = .ok (.aload_n 0, 1) := by decide +kernel
theorem zd_Q_movers_15 : decode zc_Q_movers 15 = .ok (.getfield 59, 3) := by decide +kernel
theorem zd_Q_movers_18 : decode zc_Q_movers 18 = .ok (.ireturn, 1) := by decide +kernel
theorem zd_Q_oneTick_0 : decode zc_Q_oneTick 0 = .ok (.aload_n 0, 1) := by decide +kernel
theorem zd_Q_oneTick_1 : decode zc_Q_oneTick 1 = .ok (.invokevirtual 84, 3) := by decide +kernel
theorem zd_Q_oneTick_4 : decode zc_Q_oneTick 4 = .ok (.istore_n 1, 1) := by decide +kernel
theorem zd_Q_oneTick_5 : decode zc_Q_oneTick 5 = .ok (.iload_n 1, 1) := by decide +kernel
theorem zd_Q_oneTick_6 : decode zc_Q_oneTick 6 = .ok (.iconst 1, 1) := by decide +kernel
theorem zd_Q_oneTick_7 : decode zc_Q_oneTick 7 = .ok (.if_icmp .ge 4, 3) := by decide +kernel
theorem zd_Q_oneTick_10 : decode zc_Q_oneTick 10 = .ok (.return_, 1) := by decide +kernel
theorem zd_Q_oneTick_11 : decode zc_Q_oneTick 11 = .ok (.aload_n 0, 1) := by decide +kernel
theorem zd_Q_oneTick_12 : decode zc_Q_oneTick 12 = .ok (.aload_n 0, 1) := by decide +kernel
theorem zd_Q_oneTick_13 : decode zc_Q_oneTick 13 = .ok (.getfield 80, 3) := by decide +kernel
theorem zd_Q_oneTick_16 : decode zc_Q_oneTick 16 = .ok (.ldc2_w 94, 3) := by decide +kernel
theorem zd_Q_oneTick_19 : decode zc_Q_oneTick 19 = .ok (.lmul, 1) := by decide +kernel
theorem zd_Q_oneTick_20 : decode zc_Q_oneTick 20 = .ok (.ldc2_w 96, 3) := by decide +kernel
theorem zd_Q_oneTick_23 : decode zc_Q_oneTick 23 = .ok (.ladd, 1) := by decide +kernel
theorem zd_Q_oneTick_24 : decode zc_Q_oneTick 24 = .ok (.putfield 80, 3) := by decide +kernel
theorem zd_Q_oneTick_27 : decode zc_Q_oneTick 27 = .ok (.aload_n 0, 1) := by decide +kernel
theorem zd_Q_oneTick_28 : decode zc_Q_oneTick 28 = .ok (.getfield 80, 3) := by decide +kernel
theorem zd_Q_oneTick_31 : decode zc_Q_oneTick 31 = .ok (.bipush 33, 2) := by decide +kernel
theorem zd_Q_oneTick_33 : decode zc_Q_oneTick 33 = .ok (.lushr, 1) := by decide +kernel
theorem zd_Q_oneTick_34 : decode zc_Q_oneTick 34 = .ok (.l2i, 1) := by decide +kernel
theorem zd_Q_oneTick_35 : decode zc_Q_oneTick 35 = .ok (.istore_n 2, 1) := by decide +kernel
theorem zd_Q_oneTick_36 : decode zc_Q_oneTick 36 = .ok (.aload_n 0, 1) := by decide +kernel
theorem zd_Q_oneTick_37 : decode zc_Q_oneTick 37 = .ok (.iload_n 2, 1) := by decide +kernel
theorem zd_Q_oneTick_38 : decode zc_Q_oneTick 38 = .ok (.iload_n 1, 1) := by decide +kernel
theorem zd_Q_oneTick_39 : decode zc_Q_oneTick 39 = .ok (.irem, 1) := by decide +kernel
theorem zd_Q_oneTick_40 : decode zc_Q_oneTick 40 = .ok (.invokevirtual 98, 3) := by decide +kernel
theorem zd_Q_oneTick_43 : decode zc_Q_oneTick 43 = .ok (.istore_n 3, 1) := by decide +kernel
theorem zd_Q_oneTick_44 : decode zc_Q_oneTick 44 = .ok (.aload_n 0, 1) := by decide +kernel
theorem zd_Q_oneTick_45 : decode zc_Q_oneTick 45 = .ok (.iload_n 3, 1) := by decide +kernel
theorem zd_Q_oneTick_46 : decode zc_Q_oneTick 46 = .ok (.invokevirtual 102, 3) := by decide +kernel
theorem zd_Q_oneTick_49 : decode zc_Q_oneTick 49 = .ok (.ifCond .ne 4, 3) := by decide +kernel
theorem zd_Q_oneTick_52 : decode zc_Q_oneTick 52 = .ok (.return_, 1) := by decide +kernel
theorem zd_Q_oneTick_53 : decode zc_Q_oneTick 53 = .ok (.aload_n 0, 1) := by decide +kernel
theorem zd_Q_oneTick_54 : decode zc_Q_oneTick 54 = .ok (.dup, 1) := by decide +kernel
theorem zd_Q_oneTick_55 : decode zc_Q_oneTick 55 = .ok (.getfield 77, 3) := by decide +kernel
theorem zd_Q_oneTick_58 : decode zc_Q_oneTick 58 = .ok (.iconst 1, 1) := by decide +kernel
theorem zd_Q_oneTick_59 : decode zc_Q_oneTick 59 = .ok (.iadd, 1) := by decide +kernel
theorem zd_Q_oneTick_60 : decode zc_Q_oneTick 60 = .ok (.putfield 77, 3) := by decide +kernel
theorem zd_Q_oneTick_63 : decode zc_Q_oneTick 63 = .ok (.aload_n 0, 1) := by decide +kernel
theorem zd_Q_oneTick_64 : decode zc_Q_oneTick 64 = .ok (.getfield 19, 3) := by decide +kernel
theorem zd_Q_oneTick_67 : decode zc_Q_oneTick 67 = .ok (.iload_n 3, 1) := by decide +kernel
theorem zd_Q_oneTick_68 : decode zc_Q_oneTick 68 = .ok (.dup2, 1) := by decide +kernel
theorem zd_Q_oneTick_69 : decode zc_Q_oneTick 69 = .ok (.iaload, 1) := by decide +kernel
theorem zd_Q_oneTick_70 : decode zc_Q_oneTick 70 = .ok (.iconst 1, 1) := by decide +kernel
theorem zd_Q_oneTick_71 : decode zc_Q_oneTick 71 = .ok (.iadd, 1) := by decide +kernel
theorem zd_Q_oneTick_72 : decode zc_Q_oneTick 72 = .ok (.iastore, 1) := by decide +kernel
theorem zd_Q_oneTick_73 : decode zc_Q_oneTick 73 = .ok (.aload_n 0, 1) := by decide +kernel
theorem zd_Q_oneTick_74 : decode zc_Q_oneTick 74 = .ok (.getfield 15, 3) := by decide +kernel
theorem zd_Q_oneTick_77 : decode zc_Q_oneTick 77 = .ok (.iload_n 3, 1) := by decide +kernel
theorem zd_Q_oneTick_78 : decode zc_Q_oneTick 78 = .ok (.iaload, 1) := by decide +kernel
theorem zd_Q_oneTick_79 : decode zc_Q_oneTick 79 = .ok (.iconst (-1), 1) := by decide +kernel
theorem zd_Q_oneTick_80 : decode zc_Q_oneTick 80 = .ok (.if_icmp .ne 8, 3) := by decide +kernel
theorem zd_Q_oneTick_83 : decode zc_Q_oneTick 83 = .ok (.aload_n 0, 1) := by decide +kernel
theorem zd_Q_oneTick_84 : decode zc_Q_oneTick 84 = .ok (.iload_n 3, 1) := by decide +kernel
theorem zd_Q_oneTick_85 : decode zc_Q_oneTick 85 = .ok (.invokevirtual 106, 3) := by decide +kernel
theorem zd_Q_oneTick_88 : decode zc_Q_oneTick 88 = .ok (.aload_n 0, 1) := by decide +kernel
theorem zd_Q_oneTick_89 : decode zc_Q_oneTick 89 = .ok (.getfield 15, 3) := by decide +kernel
theorem zd_Q_oneTick_92 : decode zc_Q_oneTick 92 = .ok (.iload_n 3, 1) := by decide +kernel
theorem zd_Q_oneTick_93 : decode zc_Q_oneTick 93 = .ok (.iaload, 1) := by decide +kernel
theorem zd_Q_oneTick_94 : decode zc_Q_oneTick 94 = .ok (.istore 4, 2) := by decide +kernel
theorem zd_Q_oneTick_96 : decode zc_Q_oneTick 96 = .ok (.aload_n 0, 1) := by decide +kernel
theorem zd_Q_oneTick_97 : decode zc_Q_oneTick 97 = .ok (.iload 4, 2) := by decide +kernel
theorem zd_Q_oneTick_99 : decode zc_Q_oneTick 99 = .ok (.invokevirtual 110, 3) := by decide +kernel
theorem zd_Q_oneTick_102 : decode zc_Q_oneTick 102 = .ok (.istore 5, 2) := by decide +kernel
theorem zd_Q_oneTick_104 : decode zc_Q_oneTick 104 = .ok (.iload 5, 2) := by decide +kernel
theorem zd_Q_oneTick_106 : decode zc_Q_oneTick 106 = .ok (.ifCond .eq 10, 3) := by decide +kernel
theorem zd_Q_oneTick_109 : decode zc_Q_oneTick 109 = .ok (.aload_n 0, 1) := by decide +kernel
theorem zd_Q_oneTick_110 : decode zc_Q_oneTick 110 = .ok (.iload 4, 2) := by decide +kernel
theorem zd_Q_oneTick_112 : decode zc_Q_oneTick 112 = .ok (.iload_n 3, 1) := by decide +kernel
theorem zd_Q_oneTick_113 : decode zc_Q_oneTick 113 = .ok (.invokevirtual 113, 3) := by decide +kernel
theorem zd_Q_oneTick_116 : decode zc_Q_oneTick 116 = .ok (.return_, 1) := by decide +kernel
theorem zd_Q_moverBehind_0 : decode zc_Q_moverBehind 0 = .ok (.aload_n 0, 1) := by decide +kernel
theorem zd_Q_moverBehind_1 : decode zc_Q_moverBehind 1 = .ok (.invokevirtual 90, 3) := by decide +kernel
theorem zd_Q_moverBehind_4 : decode zc_Q_moverBehind 4 = .ok (.ifCond .eq 5, 3) := by decide +kernel
theorem zd_Q_moverBehind_7 : decode zc_Q_moverBehind 7 = .ok (.iload_n 1, 1) := by decide +kernel
theorem zd_Q_moverBehind_8 : decode zc_Q_moverBehind 8 = .ok (.ireturn, 1) := by decide +kernel
theorem zd_Q_moverBehind_9 : decode zc_Q_moverBehind 9 = .ok (.iload_n 1, 1) := by decide +kernel
theorem zd_Q_moverBehind_10 : decode zc_Q_moverBehind 10 = .ok (.istore_n 2, 1) := by decide +kernel
theorem zd_Q_moverBehind_11 : decode zc_Q_moverBehind 11 = .ok (.iconst 0, 1) := by decide +kernel
theorem zd_Q_moverBehind_12 : decode zc_Q_moverBehind 12 = .ok (.istore_n 3, 1) := by decide +kernel
theorem zd_Q_moverBehind_13 : decode zc_Q_moverBehind 13 = .ok (.iload_n 3, 1) := by decide +kernel
theorem zd_Q_moverBehind_14 : decode zc_Q_moverBehind 14 = .ok (.aload_n 0, 1) := by decide +kernel
theorem zd_Q_moverBehind_15 : decode zc_Q_moverBehind 15 = .ok (.getfield 55, 3) := by decide +kernel
theorem zd_Q_moverBehind_18 : decode zc_Q_moverBehind 18 = .ok (.if_icmp .ge 28, 3) := by decide +kernel
theorem zd_Q_moverBehind_21 : decode zc_Q_moverBehind 21 = .ok (.aload_n 0, 1) := by decide +kernel
theorem zd_Q_moverBehind_22 : decode zc_Q_moverBehind 22 = .ok (.getfield 15, 3) := by decide +kernel
theorem zd_Q_moverBehind_25 : decode zc_Q_moverBehind 25 = .ok (.iload_n 3, 1) := by decide +kernel
theorem zd_Q_moverBehind_26 : decode zc_Q_moverBehind 26 = .ok (.iaload, 1) := by decide +kernel
theorem zd_Q_moverBehind_27 : decode zc_Q_moverBehind 27 = .ok (.iconst (-1), 1) := by decide +kernel
theorem zd_Q_moverBehind_28 : decode zc_Q_moverBehind 28 = .ok (.if_icmp .eq 12, 3) := by decide +kernel
theorem zd_Q_moverBehind_31 : decode zc_Q_moverBehind 31 = .ok (.iload_n 2, 1) := by decide +kernel
theorem zd_Q_moverBehind_32 : decode zc_Q_moverBehind 32 = .ok (.ifCond .ne 5, 3) := by decide +kernel
theorem zd_Q_moverBehind_35 : decode zc_Q_moverBehind 35 = .ok (.iload_n 3, 1) := by decide +kernel
theorem zd_Q_moverBehind_36 : decode zc_Q_moverBehind 36 = .ok (.ireturn, 1) := by decide +kernel
theorem zd_Q_moverBehind_37 : decode zc_Q_moverBehind 37 = .ok (.iinc 2 (-1), 3) := by decide +kernel
theorem zd_Q_moverBehind_40 : decode zc_Q_moverBehind 40 = .ok (.iinc 3 1, 3) := by decide +kernel
theorem zd_Q_moverBehind_43 : decode zc_Q_moverBehind 43 = .ok (.goto (-30), 3) := by decide +kernel
theorem zd_Q_moverBehind_46 : decode zc_Q_moverBehind 46 = .ok (.iconst (-1), 1) := by decide +kernel
theorem zd_Q_moverBehind_47 : decode zc_Q_moverBehind 47 = .ok (.ireturn, 1) := by decide +kernel
theorem zd_Q_takeNext_0 : decode zc_Q_takeNext 0 = .ok (.aload_n 0, 1) := by decide +kernel
theorem zd_Q_takeNext_1 : decode zc_Q_takeNext 1 = .ok (.iload_n 1, 1) := by decide +kernel
theorem zd_Q_takeNext_2 : decode zc_Q_takeNext 2 = .ok (.invokevirtual 102, 3) := by decide +kernel
theorem zd_Q_takeNext_5 : decode zc_Q_takeNext 5 = .ok (.ifCond .eq 40, 3) := by decide +kernel
theorem zd_Q_takeNext_8 : decode zc_Q_takeNext 8 = .ok (.aload_n 0, 1) := by decide +kernel
theorem zd_Q_takeNext_9 : decode zc_Q_takeNext 9 = .ok (.invokevirtual 90, 3) := by decide +kernel
theorem zd_Q_takeNext_12 : decode zc_Q_takeNext 12 = .ok (.ifCond .eq 33, 3) := by decide +kernel
theorem zd_Q_takeNext_15 : decode zc_Q_takeNext 15 = .ok (.aload_n 0, 1) := by decide +kernel
theorem zd_Q_takeNext_16 : decode zc_Q_takeNext 16 = .ok (.getfield 15, 3) := by decide +kernel
theorem zd_Q_takeNext_19 : decode zc_Q_takeNext 19 = .ok (.iload_n 1, 1) := by decide +kernel
theorem zd_Q_takeNext_20 : decode zc_Q_takeNext 20 = .ok (.aload_n 0, 1) := by decide +kernel
theorem zd_Q_takeNext_21 : decode zc_Q_takeNext 21 = .ok (.getfield 62, 3) := by decide +kernel
theorem zd_Q_takeNext_24 : decode zc_Q_takeNext 24 = .ok (.iastore, 1) := by decide +kernel
theorem zd_Q_takeNext_25 : decode zc_Q_takeNext 25 = .ok (.aload_n 0, 1) := by decide +kernel
theorem zd_Q_takeNext_26 : decode zc_Q_takeNext 26 = .ok (.dup, 1) := by decide +kernel
theorem zd_Q_takeNext_27 : decode zc_Q_takeNext 27 = .ok (.getfield 59, 3) := by decide +kernel
theorem zd_Q_takeNext_30 : decode zc_Q_takeNext 30 = .ok (.iconst 1, 1) := by decide +kernel
theorem zd_Q_takeNext_31 : decode zc_Q_takeNext 31 = .ok (.iadd, 1) := by decide +kernel
theorem zd_Q_takeNext_32 : decode zc_Q_takeNext 32 = .ok (.putfield 59, 3) := by decide +kernel
theorem zd_Q_takeNext_35 : decode zc_Q_takeNext 35 = .ok (.aload_n 0, 1) := by decide +kernel
theorem zd_Q_takeNext_36 : decode zc_Q_takeNext 36 = .ok (.dup, 1) := by decide +kernel
theorem zd_Q_takeNext_37 : decode zc_Q_takeNext 37 = .ok (.getfield 62, 3) := by decide +kernel
theorem zd_Q_takeNext_40 : decode zc_Q_takeNext 40 = .ok (.iconst 1, 1) := by decide +kernel
theorem zd_Q_takeNext_41 : decode zc_Q_takeNext 41 = .ok (.iadd, 1) := by decide +kernel
theorem zd_Q_takeNext_42 : decode zc_Q_takeNext 42 = .ok (.putfield 62, 3) := by decide +kernel
theorem zd_Q_takeNext_45 : decode zc_Q_takeNext 45 = .ok (.return_, 1) := by decide +kernel
theorem zd_Q_spendTick_0 : decode zc_Q_spendTick 0 = .ok (.aload_n 0, 1) := by decide +kernel
theorem zd_Q_spendTick_1 : decode zc_Q_spendTick 1 = .ok (.getfield 9, 3) := by decide +kernel
theorem zd_Q_spendTick_4 : decode zc_Q_spendTick 4 = .ok (.iload_n 1, 1) := by decide +kernel
theorem zd_Q_spendTick_5 : decode zc_Q_spendTick 5 = .ok (.invokevirtual 117, 3) := by decide +kernel
theorem zd_Q_spendTick_8 : decode zc_Q_spendTick 8 = .ok (.ifCond .ne 5, 3) := by decide +kernel
theorem zd_Q_spendTick_11 : decode zc_Q_spendTick 11 = .ok (.iconst 0, 1) := by decide +kernel
theorem zd_Q_spendTick_12 : decode zc_Q_spendTick 12 = .ok (.ireturn, 1) := by decide +kernel
theorem zd_Q_spendTick_13 : decode zc_Q_spendTick 13 = .ok (.aload_n 0, 1) := by decide +kernel
theorem zd_Q_spendTick_14 : decode zc_Q_spendTick 14 = .ok (.getfield 25, 3) := by decide +kernel
theorem zd_Q_spendTick_17 : decode zc_Q_spendTick 17 = .ok (.iload_n 1, 1) := by decide +kernel
theorem zd_Q_spendTick_18 : decode zc_Q_spendTick 18 = .ok (.dup2, 1) := by decide +kernel
theorem zd_Q_spendTick_19 : decode zc_Q_spendTick 19 = .ok (.iaload, 1) := by decide +kernel
theorem zd_Q_spendTick_20 : decode zc_Q_spendTick 20 = .ok (.iconst 1, 1) := by decide +kernel
theorem zd_Q_spendTick_21 : decode zc_Q_spendTick 21 = .ok (.iadd, 1) := by decide +kernel
theorem zd_Q_spendTick_22 : decode zc_Q_spendTick 22 = .ok (.iastore, 1) := by decide +kernel
theorem zd_Q_spendTick_23 : decode zc_Q_spendTick 23 = .ok (.aload_n 0, 1) := by decide +kernel
theorem zd_Q_spendTick_24 : decode zc_Q_spendTick 24 = .ok (.getfield 22, 3) := by decide +kernel
theorem zd_Q_spendTick_27 : decode zc_Q_spendTick 27 = .ok (.iload_n 1, 1) := by decide +kernel
theorem zd_Q_spendTick_28 : decode zc_Q_spendTick 28 = .ok (.dup2, 1) := by decide +kernel
theorem zd_Q_spendTick_29 : decode zc_Q_spendTick 29 = .ok (.iaload, 1) := by decide +kernel
theorem zd_Q_spendTick_30 : decode zc_Q_spendTick 30 = .ok (.iconst 1, 1) := by decide +kernel
theorem zd_Q_spendTick_31 : decode zc_Q_spendTick 31 = .ok (.iadd, 1) := by decide +kernel
theorem zd_Q_spendTick_32 : decode zc_Q_spendTick 32 = .ok (.iastore, 1) := by decide +kernel
theorem zd_Q_spendTick_33 : decode zc_Q_spendTick 33 = .ok (.aload_n 0, 1) := by decide +kernel
theorem zd_Q_spendTick_34 : decode zc_Q_spendTick 34 = .ok (.getfield 22, 3) := by decide +kernel
theorem zd_Q_spendTick_37 : decode zc_Q_spendTick 37 = .ok (.iload_n 1, 1) := by decide +kernel
theorem zd_Q_spendTick_38 : decode zc_Q_spendTick 38 = .ok (.iaload, 1) := by decide +kernel
theorem zd_Q_spendTick_39 : decode zc_Q_spendTick 39 = .ok (.aload_n 0, 1) := by decide +kernel
theorem zd_Q_spendTick_40 : decode zc_Q_spendTick 40 = .ok (.getfield 9, 3) := by decide +kernel
theorem zd_Q_spendTick_43 : decode zc_Q_spendTick 43 = .ok (.iload_n 1, 1) := by decide +kernel
theorem zd_Q_spendTick_44 : decode zc_Q_spendTick 44 = .ok (.invokevirtual 120, 3) := by decide +kernel
theorem zd_Q_spendTick_47 : decode zc_Q_spendTick 47 = .ok (.if_icmp .ge 5, 3) := by decide +kernel
theorem zd_Q_spendTick_50 : decode zc_Q_spendTick 50 = .ok (.iconst 0, 1) := by decide +kernel
theorem zd_Q_spendTick_51 : decode zc_Q_spendTick 51 = .ok (.ireturn, 1) := by decide +kernel
theorem zd_Q_spendTick_52 : decode zc_Q_spendTick 52 = .ok (.aload_n 0, 1) := by decide +kernel
theorem zd_Q_spendTick_53 : decode zc_Q_spendTick 53 = .ok (.getfield 22, 3) := by decide +kernel
theorem zd_Q_spendTick_56 : decode zc_Q_spendTick 56 = .ok (.iload_n 1, 1) := by decide +kernel
theorem zd_Q_spendTick_57 : decode zc_Q_spendTick 57 = .ok (.iconst 0, 1) := by decide +kernel
theorem zd_Q_spendTick_58 : decode zc_Q_spendTick 58 = .ok (.iastore, 1) := by decide +kernel
theorem zd_Q_spendTick_59 : decode zc_Q_spendTick 59 = .ok (.aload_n 0, 1) := by decide +kernel
theorem zd_Q_spendTick_60 : decode zc_Q_spendTick 60 = .ok (.getfield 28, 3) := by decide +kernel
theorem zd_Q_spendTick_63 : decode zc_Q_spendTick 63 = .ok (.iload_n 1, 1) := by decide +kernel
theorem zd_Q_spendTick_64 : decode zc_Q_spendTick 64 = .ok (.iaload, 1) := by decide +kernel
theorem zd_Q_spendTick_65 : decode zc_Q_spendTick 65 = .ok (.aload_n 0, 1) := by decide +kernel
theorem zd_Q_spendTick_66 : decode zc_Q_spendTick 66 = .ok (.getfield 9, 3) := by decide +kernel
theorem zd_Q_spendTick_69 : decode zc_Q_spendTick 69 = .ok (.iload_n 1, 1) := by decide +kernel
theorem zd_Q_spendTick_70 : decode zc_Q_spendTick 70 = .ok (.invokevirtual 123, 3) := by decide +kernel
theorem zd_Q_spendTick_73 : decode zc_Q_spendTick 73 = .ok (.if_icmp .ge 15, 3) := by decide +kernel
theorem zd_Q_spendTick_76 : decode zc_Q_spendTick 76 = .ok (.aload_n 0, 1) := by decide +kernel
theorem zd_Q_spendTick_77 : decode zc_Q_spendTick 77 = .ok (.getfield 28, 3) := by decide +kernel
theorem zd_Q_spendTick_80 : decode zc_Q_spendTick 80 = .ok (.iload_n 1, 1) := by decide +kernel
theorem zd_Q_spendTick_81 : decode zc_Q_spendTick 81 = .ok (.dup2, 1) := by decide +kernel
theorem zd_Q_spendTick_82 : decode zc_Q_spendTick 82 = .ok (.iaload, 1) := by decide +kernel
theorem zd_Q_spendTick_83 : decode zc_Q_spendTick 83 = .ok (.iconst 1, 1) := by decide +kernel
theorem zd_Q_spendTick_84 : decode zc_Q_spendTick 84 = .ok (.iadd, 1) := by decide +kernel
theorem zd_Q_spendTick_85 : decode zc_Q_spendTick 85 = .ok (.iastore, 1) := by decide +kernel
theorem zd_Q_spendTick_86 : decode zc_Q_spendTick 86 = .ok (.iconst 0, 1) := by decide +kernel
theorem zd_Q_spendTick_87 : decode zc_Q_spendTick 87 = .ok (.ireturn, 1) := by decide +kernel
theorem zd_Q_spendTick_88 : decode zc_Q_spendTick 88 = .ok (.iconst 1, 1) := by decide +kernel
theorem zd_Q_spendTick_89 : decode zc_Q_spendTick 89 = .ok (.ireturn, 1) := by decide +kernel
theorem zd_Q_finish_0 : decode zc_Q_finish 0 = .ok (.aload_n 0, 1) := by decide +kernel
theorem zd_Q_finish_1 : decode zc_Q_finish 1 = .ok (.getfield 9, 3) := by decide +kernel
theorem zd_Q_finish_4 : decode zc_Q_finish 4 = .ok (.iload_n 1, 1) := by decide +kernel
theorem zd_Q_finish_5 : decode zc_Q_finish 5 = .ok (.invokevirtual 117, 3) := by decide +kernel
theorem zd_Q_finish_8 : decode zc_Q_finish 8 = .ok (.ifCond .eq 15, 3) := by decide +kernel
theorem zd_Q_finish_11 : decode zc_Q_finish 11 = .ok (.aload_n 0, 1) := by decide +kernel
theorem zd_Q_finish_12 : decode zc_Q_finish 12 = .ok (.getfield 74, 3) := by decide +kernel
theorem zd_Q_finish_15 : decode zc_Q_finish 15 = .ok (.aload_n 0, 1) := by decide +kernel
theorem zd_Q_finish_16 : decode zc_Q_finish 16 = .ok (.getfield 37, 3) := by decide +kernel
theorem zd_Q_finish_19 : decode zc_Q_finish 19 = .ok (.arraylength, 1) := by decide +kernel
theorem zd_Q_finish_20 : decode zc_Q_finish 20 = .ok (.if_icmp .lt 4, 3) := by decide +kernel
theorem zd_Q_finish_23 : decode zc_Q_finish 23 = .ok (.return_, 1) := by decide +kernel
theorem zd_Q_finish_24 : decode zc_Q_finish 24 = .ok (.aload_n 0, 1) := by decide +kernel
theorem zd_Q_finish_25 : decode zc_Q_finish 25 = .ok (.getfield 37, 3) := by decide +kernel
theorem zd_Q_finish_28 : decode zc_Q_finish 28 = .ok (.aload_n 0, 1) := by decide +kernel
theorem zd_Q_finish_29 : decode zc_Q_finish 29 = .ok (.getfield 74, 3) := by decide +kernel
theorem zd_Q_finish_32 : decode zc_Q_finish 32 = .ok (.iload_n 1, 1) := by decide +kernel
theorem zd_Q_finish_33 : decode zc_Q_finish 33 = .ok (.iastore, 1) := by decide +kernel
theorem zd_Q_finish_34 : decode zc_Q_finish 34 = .ok (.aload_n 0, 1) := by decide +kernel
theorem zd_Q_finish_35 : decode zc_Q_finish 35 = .ok (.dup, 1) := by decide +kernel
theorem zd_Q_finish_36 : decode zc_Q_finish 36 = .ok (.getfield 74, 3) := by decide +kernel
theorem zd_Q_finish_39 : decode zc_Q_finish 39 = .ok (.iconst 1, 1) := by decide +kernel
theorem zd_Q_finish_40 : decode zc_Q_finish 40 = .ok (.iadd, 1) := by decide +kernel
theorem zd_Q_finish_41 : decode zc_Q_finish 41 = .ok (.putfield 74, 3) := by decide +kernel
theorem zd_Q_finish_44 : decode zc_Q_finish 44 = .ok (.aload_n 0, 1) := by decide +kernel
theorem zd_Q_finish_45 : decode zc_Q_finish 45 = .ok (.getfield 31, 3) := by decide +kernel
theorem zd_Q_finish_48 : decode zc_Q_finish 48 = .ok (.iload_n 1, 1) := by decide +kernel
theorem zd_Q_finish_49 : decode zc_Q_finish 49 = .ok (.iload_n 2, 1) := by decide +kernel
theorem zd_Q_finish_50 : decode zc_Q_finish 50 = .ok (.iastore, 1) := by decide +kernel
theorem zd_Q_finish_51 : decode zc_Q_finish 51 = .ok (.aload_n 0, 1) := by decide +kernel
theorem zd_Q_finish_52 : decode zc_Q_finish 52 = .ok (.getfield 34, 3) := by decide +kernel
theorem zd_Q_finish_55 : decode zc_Q_finish 55 = .ok (.iload_n 1, 1) := by decide +kernel
theorem zd_Q_finish_56 : decode zc_Q_finish 56 = .ok (.aload_n 0, 1) := by decide +kernel
theorem zd_Q_finish_57 : decode zc_Q_finish 57 = .ok (.getfield 77, 3) := by decide +kernel
theorem zd_Q_finish_60 : decode zc_Q_finish 60 = .ok (.iastore, 1) := by decide +kernel
theorem zd_Q_finish_61 : decode zc_Q_finish 61 = .ok (.aload_n 0, 1) := by decide +kernel
theorem zd_Q_finish_62 : decode zc_Q_finish 62 = .ok (.iload_n 2, 1) := by decide +kernel
theorem zd_Q_finish_63 : decode zc_Q_finish 63 = .ok (.invokevirtual 126, 3) := by decide +kernel
theorem zd_Q_finish_66 : decode zc_Q_finish 66 = .ok (.aload_n 0, 1) := by decide +kernel
theorem zd_Q_finish_67 : decode zc_Q_finish 67 = .ok (.getfield 9, 3) := by decide +kernel
theorem zd_Q_finish_70 : decode zc_Q_finish 70 = .ok (.iload_n 1, 1) := by decide +kernel
theorem zd_Q_finish_71 : decode zc_Q_finish 71 = .ok (.invokevirtual 129, 3) := by decide +kernel
theorem zd_Q_finish_74 : decode zc_Q_finish 74 = .ok (.ifCond .eq 13, 3) := by decide +kernel
theorem zd_Q_finish_77 : decode zc_Q_finish 77 = .ok (.aload_n 0, 1) := by decide +kernel
theorem zd_Q_finish_78 : decode zc_Q_finish 78 = .ok (.iload_n 1, 1) := by decide +kernel
theorem zd_Q_finish_79 : decode zc_Q_finish 79 = .ok (.putfield 71, 3) := by decide +kernel
theorem zd_Q_finish_82 : decode zc_Q_finish 82 = .ok (.aload_n 0, 1) := by decide +kernel
theorem zd_Q_finish_83 : decode zc_Q_finish 83 = .ok (.iload_n 1, 1) := by decide +kernel
theorem zd_Q_finish_84 : decode zc_Q_finish 84 = .ok (.invokevirtual 132, 3) := by decide +kernel
theorem zd_Q_finish_87 : decode zc_Q_finish 87 = .ok (.return_, 1) := by decide +kernel
theorem zd_Q_dropBehind_0 : decode zc_Q_dropBehind 0 = .ok (.iconst 0, 1) := by decide +kernel
theorem zd_Q_dropBehind_1 : decode zc_Q_dropBehind 1 = .ok (.istore_n 2, 1) := by decide +kernel
theorem zd_Q_dropBehind_2 : decode zc_Q_dropBehind 2 = .ok (.iload_n 2, 1) := by decide +kernel
theorem zd_Q_dropBehind_3 : decode zc_Q_dropBehind 3 = .ok (.aload_n 0, 1) := by decide +kernel
theorem zd_Q_dropBehind_4 : decode zc_Q_dropBehind 4 = .ok (.getfield 55, 3) := by decide +kernel
theorem zd_Q_dropBehind_7 : decode zc_Q_dropBehind 7 = .ok (.if_icmp .ge 24, 3) := by decide +kernel
theorem zd_Q_dropBehind_10 : decode zc_Q_dropBehind 10 = .ok (.aload_n 0, 1) := by decide +kernel
theorem zd_Q_dropBehind_11 : decode zc_Q_dropBehind 11 = .ok (.getfield 15, 3) := by decide +kernel
theorem zd_Q_dropBehind_14 : decode zc_Q_dropBehind 14 = .ok (.iload_n 2, 1) := by decide +kernel
theorem zd_Q_dropBehind_15 : decode zc_Q_dropBehind 15 = .ok (.iaload, 1) := by decide +kernel
theorem zd_Q_dropBehind_16 : decode zc_Q_dropBehind 16 = .ok (.iload_n 1, 1) := by decide +kernel
theorem zd_Q_dropBehind_17 : decode zc_Q_dropBehind 17 = .ok (.if_icmp .le 8, 3) := by decide +kernel
theorem zd_Q_dropBehind_20 : decode zc_Q_dropBehind 20 = .ok (.aload_n 0, 1) := by decide +kernel
theorem zd_Q_dropBehind_21 : decode zc_Q_dropBehind 21 = .ok (.iload_n 2, 1) := by decide +kernel
theorem zd_Q_dropBehind_22 : decode zc_Q_dropBehind 22 = .ok (.invokevirtual 126, 3) := by decide +kernel
theorem zd_Q_dropBehind_25 : decode zc_Q_dropBehind 25 = .ok (.iinc 2 1, 3) := by decide +kernel
theorem zd_Q_dropBehind_28 : decode zc_Q_dropBehind 28 = .ok (.goto (-26), 3) := by decide +kernel
theorem zd_Q_dropBehind_31 : decode zc_Q_dropBehind 31 = .ok (.return_, 1) := by decide +kernel
theorem zd_Q_letGo_0 : decode zc_Q_letGo 0 = .ok (.aload_n 0, 1) := by decide +kernel
theorem zd_Q_letGo_1 : decode zc_Q_letGo 1 = .ok (.iload_n 1, 1) := by decide +kernel
theorem zd_Q_letGo_2 : decode zc_Q_letGo 2 = .ok (.invokevirtual 102, 3) := by decide +kernel
theorem zd_Q_letGo_5 : decode zc_Q_letGo 5 = .ok (.ifCond .eq 30, 3) := by decide +kernel
theorem zd_Q_letGo_8 : decode zc_Q_letGo 8 = .ok (.aload_n 0, 1) := by decide +kernel
theorem zd_Q_letGo_9 : decode zc_Q_letGo 9 = .ok (.getfield 15, 3) := by decide +kernel
theorem zd_Q_letGo_12 : decode zc_Q_letGo 12 = .ok (.iload_n 1, 1) := by decide +kernel
theorem zd_Q_letGo_13 : decode zc_Q_letGo 13 = .ok (.iaload, 1) := by decide +kernel
theorem zd_Q_letGo_14 : decode zc_Q_letGo 14 = .ok (.iconst (-1), 1) := by decide +kernel
theorem zd_Q_letGo_15 : decode zc_Q_letGo 15 = .ok (.if_icmp .eq 20, 3) := by decide +kernel
theorem zd_Q_letGo_18 : decode zc_Q_letGo 18 = .ok (.aload_n 0, 1) := by decide +kernel
theorem zd_Q_letGo_19 : decode zc_Q_letGo 19 = .ok (.getfield 15, 3) := by decide +kernel
theorem zd_Q_letGo_22 : decode zc_Q_letGo 22 = .ok (.iload_n 1, 1) := by decide +kernel
theorem zd_Q_letGo_23 : decode zc_Q_letGo 23 = .ok (.iconst (-1), 1) := by decide +kernel
theorem zd_Q_letGo_24 : decode zc_Q_letGo 24 = .ok (.iastore, 1) := by decide +kernel
theorem zd_Q_letGo_25 : decode zc_Q_letGo 25 = .ok (.aload_n 0, 1) := by decide +kernel
theorem zd_Q_letGo_26 : decode zc_Q_letGo 26 = .ok (.dup, 1) := by decide +kernel
theorem zd_Q_letGo_27 : decode zc_Q_letGo 27 = .ok (.getfield 59, 3) := by decide +kernel
theorem zd_Q_letGo_30 : decode zc_Q_letGo 30 = .ok (.iconst 1, 1) := by decide +kernel
theorem zd_Q_letGo_31 : decode zc_Q_letGo 31 = .ok (.isub, 1) := by decide +kernel
theorem zd_Q_letGo_32 : decode zc_Q_letGo 32 = .ok (.putfield 59, 3) := by decide +kernel
theorem zd_Q_letGo_35 : decode zc_Q_letGo 35 = .ok (.return_, 1) := by decide +kernel
theorem zd_Q_countedTicks_0 : decode zc_Q_countedTicks 0 = .ok (.aload_n 0, 1) := by decide +kernel
theorem zd_Q_countedTicks_1 : decode zc_Q_countedTicks 1 = .ok (.getfield 9, 3) := by decide +kernel
theorem zd_Q_countedTicks_4 : decode zc_Q_countedTicks 4 = .ok (.invokevirtual 135, 3) := by decide +kernel
theorem zd_Q_countedTicks_7 : decode zc_Q_countedTicks 7 = .ok (.istore_n 1, 1) := by decide +kernel
theorem zd_Q_countedTicks_8 : decode zc_Q_countedTicks 8 = .ok (.iload_n 1, 1) := by decide +kernel
theorem zd_Q_countedTicks_9 : decode zc_Q_countedTicks 9 = .ok (.iconst (-1), 1) := by decide +kernel
theorem zd_Q_countedTicks_10 : decode zc_Q_countedTicks 10 = .ok (.if_icmp .ne 15, 3) := by decide +kernel
theorem zd_Q_countedTicks_13 : decode zc_Q_countedTicks 13 = .ok (.aload_n 0, 1) := by decide +kernel
theorem zd_Q_countedTicks_14 : decode zc_Q_countedTicks 14 = .ok (.getfield 9, 3) := by decide +kernel
theorem zd_Q_countedTicks_17 : decode zc_Q_countedTicks 17 = .ok (.invokevirtual 65, 3) := by decide +kernel
theorem zd_Q_countedTicks_20 : decode zc_Q_countedTicks 20 = .ok (.iconst 1, 1) := by decide +kernel
theorem zd_Q_countedTicks_21 : decode zc_Q_countedTicks 21 = .ok (.isub, 1) := by decide +kernel
theorem zd_Q_countedTicks_22 : decode zc_Q_countedTicks 22 = .ok (.goto 4, 3) := by decide +kernel
theorem zd_Q_countedTicks_25 : decode zc_Q_countedTicks 25 = .ok (.iload_n 1, 1) := by decide +kernel
theorem zd_Q_countedTicks_26 : decode zc_Q_countedTicks 26 = .ok (.istore_n 2, 1) := by decide +kernel
theorem zd_Q_countedTicks_27 : decode zc_Q_countedTicks 27 = .ok (.iconst 0, 1) := by decide +kernel
theorem zd_Q_countedTicks_28 : decode zc_Q_countedTicks 28 = .ok (.istore_n 3, 1) := by decide +kernel
theorem zd_Q_countedTicks_29 : decode zc_Q_countedTicks 29 = .ok (.iconst 0, 1) := by decide +kernel
theorem zd_Q_countedTicks_30 : decode zc_Q_countedTicks 30 = .ok (.istore 4, 2) := by decide +kernel
theorem zd_Q_countedTicks_32 : decode zc_Q_countedTicks 32 = .ok (.iload 4, 2) := by decide +kernel
theorem zd_Q_countedTicks_34 : decode zc_Q_countedTicks 34 = .ok (.iload_n 2, 1) := by decide +kernel
theorem zd_Q_countedTicks_35 : decode zc_Q_countedTicks 35 = .ok (.if_icmp .gt 29, 3) := by decide +kernel
theorem zd_Q_countedTicks_38 : decode zc_Q_countedTicks 38 = .ok (.iload 4, 2) := by decide +kernel
theorem zd_Q_countedTicks_40 : decode zc_Q_countedTicks 40 = .ok (.aload_n 0, 1) := by decide +kernel
theorem zd_Q_countedTicks_41 : decode zc_Q_countedTicks 41 = .ok (.getfield 25, 3) := by decide +kernel
theorem zd_Q_countedTicks_44 : decode zc_Q_countedTicks 44 = .ok (.arraylength, 1) := by decide +kernel
theorem zd_Q_countedTicks_45 : decode zc_Q_countedTicks 45 = .ok (.if_icmp .ge 19, 3) := by decide +kernel
theorem zd_Q_countedTicks_48 : decode zc_Q_countedTicks 48 = .ok (.iload_n 3, 1) := by decide +kernel
theorem zd_Q_countedTicks_49 : decode zc_Q_countedTicks 49 = .ok (.aload_n 0, 1) := by decide +kernel
theorem zd_Q_countedTicks_50 : decode zc_Q_countedTicks 50 = .ok (.getfield 25, 3) := by decide +kernel
theorem zd_Q_countedTicks_53 : decode zc_Q_countedTicks 53 = .ok (.iload 4, 2) := by decide +kernel
theorem zd_Q_countedTicks_55 : decode zc_Q_countedTicks 55 = .ok (.iaload, 1) := by decide +kernel
theorem zd_Q_countedTicks_56 : decode zc_Q_countedTicks 56 = .ok (.iadd, 1) := by decide +kernel
theorem zd_Q_countedTicks_57 : decode zc_Q_countedTicks 57 = .ok (.istore_n 3, 1) := by decide +kernel
theorem zd_Q_countedTicks_58 : decode zc_Q_countedTicks 58 = .ok (.iinc 4 1, 3) := by decide +kernel
theorem zd_Q_countedTicks_61 : decode zc_Q_countedTicks 61 = .ok (.goto (-29), 3) := by decide +kernel
theorem zd_Q_countedTicks_64 : decode zc_Q_countedTicks 64 = .ok (.iload_n 3, 1) := by decide +kernel
theorem zd_Q_countedTicks_65 : decode zc_Q_countedTicks 65 = .ok (.ireturn, 1) := by decide +kernel
theorem zd_Q_allTicks_0 : decode zc_Q_allTicks 0 = .ok (.aload_n 0, 1) := by decide +kernel
theorem zd_Q_allTicks_1 : decode zc_Q_allTicks 1 = .ok (.getfield 77, 3) := by decide +kernel
theorem zd_Q_allTicks_4 : decode zc_Q_allTicks 4 = .ok (.ireturn, 1) := by decide +kernel
theorem zd_Q_hasWorker_0 : decode zc_Q_hasWorker 0 = .ok (.iload_n 1, 1) := by decide +kernel
theorem zd_Q_hasWorker_1 : decode zc_Q_hasWorker 1 = .ok (.ifCond .lt 15, 3) := by decide +kernel
theorem zd_Q_hasWorker_4 : decode zc_Q_hasWorker 4 = .ok (.iload_n 1, 1) := by decide +kernel
theorem zd_Q_hasWorker_5 : decode zc_Q_hasWorker 5 = .ok (.aload_n 0, 1) := by decide +kernel
theorem zd_Q_hasWorker_6 : decode zc_Q_hasWorker 6 = .ok (.getfield 55, 3) := by decide +kernel
theorem zd_Q_hasWorker_9 : decode zc_Q_hasWorker 9 = .ok (.if_icmp .ge 7, 3) := by decide +kernel
theorem zd_Q_hasWorker_12 : decode zc_Q_hasWorker 12 = .ok (.iconst 1, 1) := by decide +kernel
theorem zd_Q_hasWorker_13 : decode zc_Q_hasWorker 13 = .ok (.goto 4, 3) := by decide +kernel
theorem zd_Q_hasWorker_16 : decode zc_Q_hasWorker 16 = .ok (.iconst 0, 1) := by decide +kernel
theorem zd_Q_hasWorker_17 : decode zc_Q_hasWorker 17 = .ok (.ireturn, 1) := by decide +kernel
theorem zd_Q_movesOf_0 : decode zc_Q_movesOf 0 = .ok (.aload_n 0, 1) := by decide +kernel
theorem zd_Q_movesOf_1 : decode zc_Q_movesOf 1 = .ok (.iload_n 1, 1) := by decide +kernel
theorem zd_Q_movesOf_2 : decode zc_Q_movesOf 2 = .ok (.invokevirtual 102, 3) := by decide +kernel
theorem zd_Q_movesOf_5 : decode zc_Q_movesOf 5 = .ok (.ifCond .eq 12, 3) := by decide +kernel
theorem zd_Q_movesOf_8 : decode zc_Q_movesOf 8 = .ok (.aload_n 0, 1) := by decide +kernel
theorem zd_Q_movesOf_9 : decode zc_Q_movesOf 9 = .ok (.getfield 19, 3) := by decide +kernel
theorem zd_Q_movesOf_12 : decode zc_Q_movesOf 12 = .ok (.iload_n 1, 1) := by decide +kernel
theorem zd_Q_movesOf_13 : decode zc_Q_movesOf 13 = .ok (.iaload, 1) := by decide +kernel
theorem zd_Q_movesOf_14 : decode zc_Q_movesOf 14 = .ok (.goto 4, 3) := by decide +kernel
theorem zd_Q_movesOf_17 : decode zc_Q_movesOf 17 = .ok (.iconst 0, 1) := by decide +kernel
theorem zd_Q_movesOf_18 : decode zc_Q_movesOf 18 = .ok (.ireturn, 1) := by decide +kernel
theorem zd_Q_hasPlace_0 : decode zc_Q_hasPlace 0 = .ok (.iload_n 1, 1) := by decide +kernel
theorem zd_Q_hasPlace_1 : decode zc_Q_hasPlace 1 = .ok (.ifCond .lt 15, 3) := by decide +kernel
theorem zd_Q_hasPlace_4 : decode zc_Q_hasPlace 4 = .ok (.iload_n 1, 1) := by decide +kernel
theorem zd_Q_hasPlace_5 : decode zc_Q_hasPlace 5 = .ok (.aload_n 0, 1) := by decide +kernel
theorem zd_Q_hasPlace_6 : decode zc_Q_hasPlace 6 = .ok (.getfield 74, 3) := by decide +kernel
theorem zd_Q_hasPlace_9 : decode zc_Q_hasPlace 9 = .ok (.if_icmp .ge 7, 3) := by decide +kernel
theorem zd_Q_hasPlace_12 : decode zc_Q_hasPlace 12 = .ok (.iconst 1, 1) := by decide +kernel
theorem zd_Q_hasPlace_13 : decode zc_Q_hasPlace 13 = .ok (.goto 4, 3) := by decide +kernel
theorem zd_Q_hasPlace_16 : decode zc_Q_hasPlace 16 = .ok (.iconst 0, 1) := by decide +kernel
theorem zd_Q_hasPlace_17 : decode zc_Q_hasPlace 17 = .ok (.ireturn, 1) := by decide +kernel
theorem zd_Q_shareInPlace_0 : decode zc_Q_shareInPlace 0 = .ok (.aload_n 0, 1) := by decide +kernel
theorem zd_Q_shareInPlace_1 : decode zc_Q_shareInPlace 1 = .ok (.iload_n 1, 1) := by decide +kernel
theorem zd_Q_shareInPlace_2 : decode zc_Q_shareInPlace 2 = .ok (.invokevirtual 138, 3) := by decide +kernel
theorem zd_Q_shareInPlace_5 : decode zc_Q_shareInPlace 5 = .ok (.ifCond .eq 12, 3) := by decide +kernel
theorem zd_Q_shareInPlace_8 : decode zc_Q_shareInPlace 8 = .ok (.aload_n 0, 1) := by decide +kernel
theorem zd_Q_shareInPlace_9 : decode zc_Q_shareInPlace 9 = .ok (.getfield 37, 3) := by decide +kernel
theorem zd_Q_shareInPlace_12 : decode zc_Q_shareInPlace 12 = .ok (.iload_n 1, 1) := by decide +kernel
theorem zd_Q_shareInPlace_13 : decode zc_Q_shareInPlace 13 = .ok (.iaload, 1) := by decide +kernel
theorem zd_Q_shareInPlace_14 : decode zc_Q_shareInPlace 14 = .ok (.goto 4, 3) := by decide +kernel
theorem zd_Q_shareInPlace_17 : decode zc_Q_shareInPlace 17 = .ok (.iconst (-1), 1) := by decide +kernel
theorem zd_Q_shareInPlace_18 : decode zc_Q_shareInPlace 18 = .ok (.ireturn, 1) := by decide +kernel
theorem zd_Q_doerOf_0 : decode zc_Q_doerOf 0 = .ok (.aload_n 0, 1) := by decide +kernel
theorem zd_Q_doerOf_1 : decode zc_Q_doerOf 1 = .ok (.getfield 9, 3) := by decide +kernel
theorem zd_Q_doerOf_4 : decode zc_Q_doerOf 4 = .ok (.iload_n 1, 1) := by decide +kernel
theorem zd_Q_doerOf_5 : decode zc_Q_doerOf 5 = .ok (.invokevirtual 117, 3) := by decide +kernel
theorem zd_Q_doerOf_8 : decode zc_Q_doerOf 8 = .ok (.ifCond .eq 12, 3) := by decide +kernel
theorem zd_Q_doerOf_11 : decode zc_Q_doerOf 11 = .ok (.aload_n 0, 1) := by decide +kernel
theorem zd_Q_doerOf_12 : decode zc_Q_doerOf 12 = .ok (.getfield 31, 3) := by decide +kernel
theorem zd_Q_doerOf_15 : decode zc_Q_doerOf 15 = .ok (.iload_n 1, 1) := by decide +kernel
theorem zd_Q_doerOf_16 : decode zc_Q_doerOf 16 = .ok (.iaload, 1) := by decide +kernel
theorem zd_Q_doerOf_17 : decode zc_Q_doerOf 17 = .ok (.goto 4, 3) := by decide +kernel
theorem zd_Q_doerOf_20 : decode zc_Q_doerOf 20 = .ok (.iconst (-1), 1) := by decide +kernel
theorem zd_Q_doerOf_21 : decode zc_Q_doerOf 21 = .ok (.ireturn, 1) := by decide +kernel
theorem zd_Q_failuresOf_0 : decode zc_Q_failuresOf 0 = .ok (.aload_n 0, 1) := by decide +kernel
theorem zd_Q_failuresOf_1 : decode zc_Q_failuresOf 1 = .ok (.getfield 9, 3) := by decide +kernel
theorem zd_Q_failuresOf_4 : decode zc_Q_failuresOf 4 = .ok (.iload_n 1, 1) := by decide +kernel
theorem zd_Q_failuresOf_5 : decode zc_Q_failuresOf 5 = .ok (.invokevirtual 117, 3) := by decide +kernel
theorem zd_Q_failuresOf_8 : decode zc_Q_failuresOf 8 = .ok (.ifCond .eq 12, 3) := by decide +kernel
theorem zd_Q_failuresOf_11 : decode zc_Q_failuresOf 11 = .ok (.aload_n 0, 1) := by decide +kernel
theorem zd_Q_failuresOf_12 : decode zc_Q_failuresOf 12 = .ok (.getfield 28, 3) := by decide +kernel
theorem zd_Q_failuresOf_15 : decode zc_Q_failuresOf 15 = .ok (.iload_n 1, 1) := by decide +kernel
theorem zd_Q_failuresOf_16 : decode zc_Q_failuresOf 16 = .ok (.iaload, 1) := by decide +kernel
theorem zd_Q_failuresOf_17 : decode zc_Q_failuresOf 17 = .ok (.goto 4, 3) := by decide +kernel
theorem zd_Q_failuresOf_20 : decode zc_Q_failuresOf 20 = .ok (.iconst 0, 1) := by decide +kernel
theorem zd_Q_failuresOf_21 : decode zc_Q_failuresOf 21 = .ok (.ireturn, 1) := by decide +kernel
theorem zd_Q_doneTickOf_0 : decode zc_Q_doneTickOf 0 = .ok (.aload_n 0, 1) := by decide +kernel
theorem zd_Q_doneTickOf_1 : decode zc_Q_doneTickOf 1 = .ok (.getfield 9, 3) := by decide +kernel
theorem zd_Q_doneTickOf_4 : decode zc_Q_doneTickOf 4 = .ok (.iload_n 1, 1) := by decide +kernel
theorem zd_Q_doneTickOf_5 : decode zc_Q_doneTickOf 5 = .ok (.invokevirtual 117, 3) := by decide +kernel
theorem zd_Q_doneTickOf_8 : decode zc_Q_doneTickOf 8 = .ok (.ifCond .eq 12, 3) := by decide +kernel
theorem zd_Q_doneTickOf_11 : decode zc_Q_doneTickOf 11 = .ok (.aload_n 0, 1) := by decide +kernel
theorem zd_Q_doneTickOf_12 : decode zc_Q_doneTickOf 12 = .ok (.getfield 34, 3) := by decide +kernel
theorem zd_Q_doneTickOf_15 : decode zc_Q_doneTickOf 15 = .ok (.iload_n 1, 1) := by decide +kernel
theorem zd_Q_doneTickOf_16 : decode zc_Q_doneTickOf 16 = .ok (.iaload, 1) := by decide +kernel
theorem zd_Q_doneTickOf_17 : decode zc_Q_doneTickOf 17 = .ok (.goto 4, 3) := by decide +kernel
theorem zd_Q_doneTickOf_20 : decode zc_Q_doneTickOf 20 = .ok (.iconst 0, 1) := by decide +kernel
theorem zd_Q_doneTickOf_21 : decode zc_Q_doneTickOf 21 = .ok (.ireturn, 1) := by decide +kernel
