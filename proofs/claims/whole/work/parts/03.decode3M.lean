theorem zd_M_init_0 : decode zc_M_init 0 = .ok (.aload_n 0, 1) := by decide +kernel
theorem zd_M_init_1 : decode zc_M_init 1 = .ok (.invokespecial 1, 3) := by decide +kernel
theorem zd_M_init_4 : decode zc_M_init 4 = .ok (.aload_n 0, 1) := by decide +kernel
theorem zd_M_init_5 : decode zc_M_init 5 = .ok (.bipush 16, 2) := by decide +kernel
theorem zd_M_init_7 : decode zc_M_init 7 = .ok (.newarray .int, 2) := by decide +kernel
theorem zd_M_init_9 : decode zc_M_init 9 = .ok (.putfield 7, 3) := by decide +kernel
theorem zd_M_init_12 : decode zc_M_init 12 = .ok (.aload_n 0, 1) := by decide +kernel
theorem zd_M_init_13 : decode zc_M_init 13 = .ok (.bipush 16, 2) := by decide +kernel
theorem zd_M_init_15 : decode zc_M_init 15 = .ok (.newarray .int, 2) := by decide +kernel
theorem zd_M_init_17 : decode zc_M_init 17 = .ok (.putfield 13, 3) := by decide +kernel
theorem zd_M_init_20 : decode zc_M_init 20 = .ok (.aload_n 0, 1) := by decide +kernel
theorem zd_M_init_21 : decode zc_M_init 21 = .ok (.bipush 16, 2) := by decide +kernel
theorem zd_M_init_23 : decode zc_M_init 23 = .ok (.newarray .long, 2) := by decide +kernel
theorem zd_M_init_25 : decode zc_M_init 25 = .ok (.putfield 16, 3) := by decide +kernel
theorem zd_M_init_28 : decode zc_M_init 28 = .ok (.aload_n 0, 1) := by decide +kernel
theorem zd_M_init_29 : decode zc_M_init 29 = .ok (.bipush 16, 2) := by decide +kernel
theorem zd_M_init_31 : decode zc_M_init 31 = .ok (.newarray .boolean, 2) := by decide +kernel
theorem zd_M_init_33 : decode zc_M_init 33 = .ok (.putfield 20, 3) := by decide +kernel
theorem zd_M_init_36 : decode zc_M_init 36 = .ok (.aload_n 0, 1) := by decide +kernel
theorem zd_M_init_37 : decode zc_M_init 37 = .ok (.bipush 16, 2) := by decide +kernel
theorem zd_M_init_39 : decode zc_M_init 39 = .ok (.newarray .int, 2) := by decide +kernel
theorem zd_M_init_41 : decode zc_M_init 41 = .ok (.putfield 24, 3) := by decide +kernel
theorem zd_M_init_44 : decode zc_M_init 44 = .ok (.aload_n 0, 1) := by decide +kernel
theorem zd_M_init_45 : decode zc_M_init 45 = .ok (.bipush 16, 2) := by decide +kernel
theorem zd_M_init_47 : decode zc_M_init 47 = .ok (.newarray .int, 2) := by decide +kernel
theorem zd_M_init_49 : decode zc_M_init 49 = .ok (.putfield 27, 3) := by decide +kernel
theorem zd_M_init_52 : decode zc_M_init 52 = .ok (.aload_n 0, 1) := by decide +kernel
theorem zd_M_init_53 : decode zc_M_init 53 = .ok (.bipush 16, 2) := by decide +kernel
theorem zd_M_init_55 : decode zc_M_init 55 = .ok (.newarray .int, 2) := by decide +kernel
theorem zd_M_init_57 : decode zc_M_init 57 = .ok (.putfield 30, 3) := by decide +kernel
theorem zd_M_init_60 : decode zc_M_init 60 = .ok (.aload_n 0, 1) := by decide +kernel
theorem zd_M_init_61 : decode zc_M_init 61 = .ok (.bipush 16, 2) := by decide +kernel
theorem zd_M_init_63 : decode zc_M_init 63 = .ok (.newarray .int, 2) := by decide +kernel
theorem zd_M_init_65 : decode zc_M_init 65 = .ok (.putfield 33, 3) := by decide +kernel
theorem zd_M_init_68 : decode zc_M_init 68 = .ok (.aload_n 0, 1) := by decide +kernel
theorem zd_M_init_69 : decode zc_M_init 69 = .ok (.bipush 16, 2) := by decide +kernel
theorem zd_M_init_71 : decode zc_M_init 71 = .ok (.newarray .int, 2) := by decide +kernel
theorem zd_M_init_73 : decode zc_M_init 73 = .ok (.putfield 36, 3) := by decide +kernel
theorem zd_M_init_76 : decode zc_M_init 76 = .ok (.aload_n 0, 1) := by decide +kernel
theorem zd_M_init_77 : decode zc_M_init 77 = .ok (.bipush 16, 2) := by decide +kernel
theorem zd_M_init_79 : decode zc_M_init 79 = .ok (.newarray .int, 2) := by decide +kernel
theorem zd_M_init_81 : decode zc_M_init 81 = .ok (.putfield 39, 3) := by decide +kernel
theorem zd_M_init_84 : decode zc_M_init 84 = .ok (.aload_n 0, 1) := by decide +kernel
theorem zd_M_init_85 : decode zc_M_init 85 = .ok (.iload_n 1, 1) := by decide +kernel
theorem zd_M_init_86 : decode zc_M_init 86 = .ok (.iconst 1, 1) := by decide +kernel
theorem zd_M_init_87 : decode zc_M_init 87 = .ok (.if_icmp .ge 7, 3) := by decide +kernel
theorem zd_M_init_90 : decode zc_M_init 90 = .ok (.iconst 1, 1) := by decide +kernel
theorem zd_M_init_91 : decode zc_M_init 91 = .ok (.goto 15, 3) := by decide +kernel
theorem zd_M_init_94 : decode zc_M_init 94 = .ok (.iload_n 1, 1) := by decide +kernel
theorem zd_M_init_95 : decode zc_M_init 95 = .ok (.bipush 16, 2) := by decide +kernel
theorem zd_M_init_97 : decode zc_M_init 97 = .ok (.if_icmp .le 8, 3) := by decide +kernel
theorem zd_M_init_100 : decode zc_M_init 100 = .ok (.bipush 16, 2) := by decide +kernel
theorem zd_M_init_102 : decode zc_M_init 102 = .ok (.goto 4, 3) := by decide +kernel
theorem zd_M_init_105 : decode zc_M_init 105 = .ok (.iload_n 1, 1) := by decide +kernel
theorem zd_M_init_106 : decode zc_M_init 106 = .ok (.putfield 42, 3) := by decide +kernel
theorem zd_M_init_109 : decode zc_M_init 109 = .ok (.iconst 0, 1) := by decide +kernel
theorem zd_M_init_110 : decode zc_M_init 110 = .ok (.istore_n 2, 1) := by decide +kernel
theorem zd_M_init_111 : decode zc_M_init 111 = .ok (.iload_n 2, 1) := by decide +kernel
theorem zd_M_init_112 : decode zc_M_init 112 = .ok (.bipush 16, 2) := by decide +kernel
theorem zd_M_init_114 : decode zc_M_init 114 = .ok (.if_icmp .ge 16, 3) := by decide +kernel
theorem zd_M_init_117 : decode zc_M_init 117 = .ok (.aload_n 0, 1) := by decide +kernel
theorem zd_M_init_118 : decode zc_M_init 118 = .ok (.getfield 7, 3) := by decide +kernel
theorem zd_M_init_121 : decode zc_M_init 121 = .ok (.iload_n 2, 1) := by decide +kernel
theorem zd_M_init_122 : decode zc_M_init 122 = .ok (.iconst 1, 1) := by decide +kernel
theorem zd_M_init_123 : decode zc_M_init 123 = .ok (.iastore, 1) := by decide +kernel
theorem zd_M_init_124 : decode zc_M_init 124 = .ok (.iinc 2 1, 3) := by decide +kernel
theorem zd_M_init_127 : decode zc_M_init 127 = .ok (.goto (-16), 3) := by decide +kernel
theorem zd_M_init_130 : decode zc_M_init 130 = .ok (.return_, 1) := by decide +kernel
theorem zd_M_thrown_0 : decode zc_M_thrown 0 = .ok (.aload_n 0, 1) := by decide +kernel
theorem zd_M_thrown_1 : decode zc_M_thrown 1 = .ok (.getfield 46, 3) := by decide +kernel
theorem zd_M_thrown_4 : decode zc_M_thrown 4 = .ok (.ireturn, 1) := by decide +kernel
theorem zd_M_fails_0 : decode zc_M_fails 0 = .ok (.aload_n 0, 1) := by decide +kernel
theorem zd_M_fails_1 : decode zc_M_fails 1 = .ok (.iload_n 1, 1) := by decide +kernel
theorem zd_M_fails_2 : decode zc_M_fails 2 = .ok (.ifCond .eq 7, 3) := by decide +kernel
theorem zd_M_fails_5 : decode zc_M_fails 5 = .ok (.iconst 1, 1) := by decide +kernel
theorem zd_M_fails_6 : decode zc_M_fails 6 = .ok (.goto 12, 3) := by decide +kernel
theorem zd_M_fails_9 : decode zc_M_fails 9 = .ok (.iload_n 2, 1) := by decide +kernel
theorem zd_M_fails_10 : decode zc_M_fails 10 = .ok (.ifCond .eq 7, 3) := by decide +kernel
theorem zd_M_fails_13 : decode zc_M_fails 13 = .ok (.iconst 2, 1) := by decide +kernel
theorem zd_M_fails_14 : decode zc_M_fails 14 = .ok (.goto 4, 3) := by decide +kernel
theorem zd_M_fails_17 : decode zc_M_fails 17 = .ok (.iconst 0, 1) := by decide +kernel
theorem zd_M_fails_18 : decode zc_M_fails 18 = .ok (.putfield 46, 3) := by decide +kernel
theorem zd_M_fails_21 : decode zc_M_fails 21 = .ok (.aload_n 0, 1) := by decide +kernel
theorem zd_M_fails_22 : decode zc_M_fails 22 = .ok (.getfield 46, 3) := by decide +kernel
theorem zd_M_fails_25 : decode zc_M_fails 25 = .ok (.ifCond .le 7, 3) := by decide +kernel
theorem zd_M_fails_28 : decode zc_M_fails 28 = .ok (.iconst 1, 1) := by decide +kernel
theorem zd_M_fails_29 : decode zc_M_fails 29 = .ok (.goto 4, 3) := by decide +kernel
theorem zd_M_fails_32 : decode zc_M_fails 32 = .ok (.iconst 0, 1) := by decide +kernel
theorem zd_M_fails_33 : decode zc_M_fails 33 = .ok (.ireturn, 1) := by decide +kernel
theorem zd_M_isShare_0 : decode zc_M_isShare 0 = .ok (.iload_n 1, 1) := by decide +kernel
theorem zd_M_isShare_1 : decode zc_M_isShare 1 = .ok (.ifCond .lt 15, 3) := by decide +kernel
theorem zd_M_isShare_4 : decode zc_M_isShare 4 = .ok (.iload_n 1, 1) := by decide +kernel
theorem zd_M_isShare_5 : decode zc_M_isShare 5 = .ok (.aload_n 0, 1) := by decide +kernel
theorem zd_M_isShare_6 : decode zc_M_isShare 6 = .ok (.getfield 42, 3) := by decide +kernel
theorem zd_M_isShare_9 : decode zc_M_isShare 9 = .ok (.if_icmp .ge 7, 3) := by decide +kernel
theorem zd_M_isShare_12 : decode zc_M_isShare 12 = .ok (.iconst 1, 1) := by decide +kernel
theorem zd_M_isShare_13 : decode zc_M_isShare 13 = .ok (.goto 4, 3) := by decide +kernel
theorem zd_M_isShare_16 : decode zc_M_isShare 16 = .ok (.iconst 0, 1) := by decide +kernel
theorem zd_M_isShare_17 : decode zc_M_isShare 17 = .ok (.ireturn, 1) := by decide +kernel
theorem zd_M_value_0 : decode zc_M_value 0 = .ok (.aload_n 0, 1) := by decide +kernel
theorem zd_M_value_1 : decode zc_M_value 1 = .ok (.aload_n 0, 1) := by decide +kernel
theorem zd_M_value_2 : decode zc_M_value 2 = .ok (.iload_n 1, 1) := by decide +kernel
theorem zd_M_value_3 : decode zc_M_value 3 = .ok (.invokevirtual 49, 3) := by decide +kernel
theorem zd_M_value_6 : decode zc_M_value 6 = .ok (.ifCond .ne 7, 3) := by decide +kernel
theorem zd_M_value_9 : decode zc_M_value 9 = .ok (.iconst 1, 1) := by decide +kernel
theorem zd_M_value_10 : decode zc_M_value 10 = .ok (.goto 4, 3) := by decide +kernel
theorem zd_M_value_13 : decode zc_M_value 13 = .ok (.iconst 0, 1) := by decide +kernel
theorem zd_M_value_14 : decode zc_M_value 14 = .ok (.iload_n 2, 1) := by decide +kernel
theorem zd_M_value_15 : decode zc_M_value 15 = .ok (.iconst 1, 1) := by decide +kernel
theorem zd_M_value_16 : decode zc_M_value 16 = .ok (.if_icmp .lt 9, 3) := by decide +kernel
theorem zd_M_value_19 : decode zc_M_value 19 = .ok (.iload_n 2, 1) := by decide +kernel
theorem zd_M_value_20 : decode zc_M_value 20 = .ok (.bipush 100, 2) := by decide +kernel
theorem zd_M_value_22 : decode zc_M_value 22 = .ok (.if_icmp .le 7, 3) := by decide +kernel
theorem zd_M_value_25 : decode zc_M_value 25 = .ok (.iconst 1, 1) := by decide +kernel
theorem zd_M_value_26 : decode zc_M_value 26 = .ok (.goto 4, 3) := by decide +kernel
theorem zd_M_value_29 : decode zc_M_value 29 = .ok (.iconst 0, 1) := by decide +kernel
theorem zd_M_value_30 : decode zc_M_value 30 = .ok (.invokevirtual 53, 3) := by decide +kernel
theorem zd_M_value_33 : decode zc_M_value 33 = .ok (.ifCond .eq 5, 3) := by decide +kernel
theorem zd_M_value_36 : decode zc_M_value 36 = .ok (.iconst 0, 1) := by decide +kernel
theorem zd_M_value_37 : decode zc_M_value 37 = .ok (.ireturn, 1) := by decide +kernel
theorem zd_M_value_38 : decode zc_M_value 38 = .ok (.aload_n 0, 1) := by decide +kernel
theorem zd_M_value_39 : decode zc_M_value 39 = .ok (.getfield 7, 3) := by decide +kernel
theorem zd_M_value_42 : decode zc_M_value 42 = .ok (.iload_n 1, 1) := by decide +kernel
theorem zd_M_value_43 : decode zc_M_value 43 = .ok (.iaload, 1) := by decide +kernel
theorem zd_M_value_44 : decode zc_M_value 44 = .ok (.iload_n 2, 1) := by decide +kernel
theorem zd_M_value_45 : decode zc_M_value 45 = .ok (.if_icmp .ne 25, 3) := by decide +kernel
theorem zd_M_value_48 : decode zc_M_value 48 = .ok (.aload_n 0, 1) := by decide +kernel
theorem zd_M_value_49 : decode zc_M_value 49 = .ok (.getfield 16, 3) := by decide +kernel
theorem zd_M_value_52 : decode zc_M_value 52 = .ok (.iload_n 1, 1) := by decide +kernel
theorem zd_M_value_53 : decode zc_M_value 53 = .ok (.laload, 1) := by decide +kernel
theorem zd_M_value_54 : decode zc_M_value 54 = .ok (.lload_n 3, 1) := by decide +kernel
theorem zd_M_value_55 : decode zc_M_value 55 = .ok (.lcmp, 1) := by decide +kernel
theorem zd_M_value_56 : decode zc_M_value 56 = .ok (.ifCond .ne 14, 3) := by decide +kernel
theorem zd_M_value_59 : decode zc_M_value 59 = .ok (.aload_n 0, 1) := by decide +kernel
theorem zd_M_value_60 : decode zc_M_value 60 = .ok (.getfield 20, 3) := by decide +kernel
theorem zd_M_value_63 : decode zc_M_value 63 = .ok (.iload_n 1, 1) := by decide +kernel
theorem zd_M_value_64 : decode zc_M_value 64 = .ok (.baload, 1) := by decide +kernel
theorem zd_M_value_65 : decode zc_M_value 65 = .ok (.iload 5, 2) := by decide +kernel
theorem zd_M_value_67 : decode zc_M_value 67 = .ok (.if_icmp .eq 7, 3) := by decide +kernel
theorem zd_M_value_70 : decode zc_M_value 70 = .ok (.iconst 1, 1) := by decide +kernel
theorem zd_M_value_71 : decode zc_M_value 71 = .ok (.goto 4, 3) := by decide +kernel
theorem zd_M_value_74 : decode zc_M_value 74 = .ok (.iconst 0, 1) := by decide +kernel
theorem zd_M_value_75 : decode zc_M_value 75 = .ok (.istore 6, 2) := by decide +kernel
theorem zd_M_value_77 : decode zc_M_value 77 = .ok (.aload_n 0, 1) := by decide +kernel
theorem zd_M_value_78 : decode zc_M_value 78 = .ok (.getfield 7, 3) := by decide +kernel
theorem zd_M_value_81 : decode zc_M_value 81 = .ok (.iload_n 1, 1) := by decide +kernel
theorem zd_M_value_82 : decode zc_M_value 82 = .ok (.iload_n 2, 1) := by decide +kernel
theorem zd_M_value_83 : decode zc_M_value 83 = .ok (.iastore, 1) := by decide +kernel
theorem zd_M_value_84 : decode zc_M_value 84 = .ok (.aload_n 0, 1) := by decide +kernel
theorem zd_M_value_85 : decode zc_M_value 85 = .ok (.getfield 16, 3) := by decide +kernel
theorem zd_M_value_88 : decode zc_M_value 88 = .ok (.iload_n 1, 1) := by decide +kernel
theorem zd_M_value_89 : decode zc_M_value 89 = .ok (.lload_n 3, 1) := by decide +kernel
theorem zd_M_value_90 : decode zc_M_value 90 = .ok (.lastore, 1) := by decide +kernel
theorem zd_M_value_91 : decode zc_M_value 91 = .ok (.aload_n 0, 1) := by decide +kernel
theorem zd_M_value_92 : decode zc_M_value 92 = .ok (.getfield 20, 3) := by decide +kernel
theorem zd_M_value_95 : decode zc_M_value 95 = .ok (.iload_n 1, 1) := by decide +kernel
theorem zd_M_value_96 : decode zc_M_value 96 = .ok (.iload 5, 2) := by decide +kernel
theorem zd_M_value_98 : decode zc_M_value 98 = .ok (.bastore, 1) := by decide +kernel
theorem zd_M_value_99 : decode zc_M_value 99 = .ok (.aload_n 0, 1) := by decide +kernel
theorem zd_M_value_100 : decode zc_M_value 100 = .ok (.aload_n 0, 1) := by decide +kernel
theorem zd_M_value_101 : decode zc_M_value 101 = .ok (.getfield 57, 3) := by decide +kernel
theorem zd_M_value_104 : decode zc_M_value 104 = .ok (.ifCond .eq 12, 3) := by decide +kernel
theorem zd_M_value_107 : decode zc_M_value 107 = .ok (.iload 6, 2) := by decide +kernel
theorem zd_M_value_109 : decode zc_M_value 109 = .ok (.ifCond .ne 7, 3) := by decide +kernel
theorem zd_M_value_112 : decode zc_M_value 112 = .ok (.iconst 1, 1) := by decide +kernel
theorem zd_M_value_113 : decode zc_M_value 113 = .ok (.goto 4, 3) := by decide +kernel
theorem zd_M_value_116 : decode zc_M_value 116 = .ok (.iconst 0, 1) := by decide +kernel
theorem zd_M_value_117 : decode zc_M_value 117 = .ok (.putfield 57, 3) := by decide +kernel
theorem zd_M_value_120 : decode zc_M_value 120 = .ok (.iload 6, 2) := by decide +kernel
theorem zd_M_value_122 : decode zc_M_value 122 = .ok (.ireturn, 1) := by decide +kernel
theorem zd_M_faults_0 : decode zc_M_faults 0 = .ok (.aload_n 0, 1) := by decide +kernel
theorem zd_M_faults_1 : decode zc_M_faults 1 = .ok (.aload_n 0, 1) := by decide +kernel
theorem zd_M_faults_2 : decode zc_M_faults 2 = .ok (.iload_n 1, 1) := by decide +kernel
theorem zd_M_faults_3 : decode zc_M_faults 3 = .ok (.invokevirtual 49, 3) := by decide +kernel
theorem zd_M_faults_6 : decode zc_M_faults 6 = .ok (.ifCond .ne 7, 3) := by decide +kernel
theorem zd_M_faults_9 : decode zc_M_faults 9 = .ok (.iconst 1, 1) := by decide +kernel
theorem zd_M_faults_10 : decode zc_M_faults 10 = .ok (.goto 4, 3) := by decide +kernel
theorem zd_M_faults_13 : decode zc_M_faults 13 = .ok (.iconst 0, 1) := by decide +kernel
theorem zd_M_faults_14 : decode zc_M_faults 14 = .ok (.iload_n 2, 1) := by decide +kernel
theorem zd_M_faults_15 : decode zc_M_faults 15 = .ok (.ifCond .lt 8, 3) := by decide +kernel
theorem zd_M_faults_18 : decode zc_M_faults 18 = .ok (.iload_n 2, 1) := by decide +kernel
theorem zd_M_faults_19 : decode zc_M_faults 19 = .ok (.iconst 3, 1) := by decide +kernel
theorem zd_M_faults_20 : decode zc_M_faults 20 = .ok (.if_icmp .le 7, 3) := by decide +kernel
theorem zd_M_faults_23 : decode zc_M_faults 23 = .ok (.iconst 1, 1) := by decide +kernel
theorem zd_M_faults_24 : decode zc_M_faults 24 = .ok (.goto 4, 3) := by decide +kernel
theorem zd_M_faults_27 : decode zc_M_faults 27 = .ok (.iconst 0, 1) := by decide +kernel
theorem zd_M_faults_28 : decode zc_M_faults 28 = .ok (.invokevirtual 53, 3) := by decide +kernel
theorem zd_M_faults_31 : decode zc_M_faults 31 = .ok (.ifCond .eq 5, 3) := by decide +kernel
theorem zd_M_faults_34 : decode zc_M_faults 34 = .ok (.iconst 0, 1) := by decide +kernel
theorem zd_M_faults_35 : decode zc_M_faults 35 = .ok (.ireturn, 1) := by decide +kernel
theorem zd_M_faults_36 : decode zc_M_faults 36 = .ok (.aload_n 0, 1) := by decide +kernel
theorem zd_M_faults_37 : decode zc_M_faults 37 = .ok (.getfield 13, 3) := by decide +kernel
theorem zd_M_faults_40 : decode zc_M_faults 40 = .ok (.iload_n 1, 1) := by decide +kernel
theorem zd_M_faults_41 : decode zc_M_faults 41 = .ok (.iaload, 1) := by decide +kernel
theorem zd_M_faults_42 : decode zc_M_faults 42 = .ok (.iload_n 2, 1) := by decide +kernel
theorem zd_M_faults_43 : decode zc_M_faults 43 = .ok (.if_icmp .eq 7, 3) := by decide +kernel
theorem zd_M_faults_46 : decode zc_M_faults 46 = .ok (.iconst 1, 1) := by decide +kernel
theorem zd_M_faults_47 : decode zc_M_faults 47 = .ok (.goto 4, 3) := by decide +kernel
theorem zd_M_faults_50 : decode zc_M_faults 50 = .ok (.iconst 0, 1) := by decide +kernel
theorem zd_M_faults_51 : decode zc_M_faults 51 = .ok (.istore_n 3, 1) := by decide +kernel
theorem zd_M_faults_52 : decode zc_M_faults 52 = .ok (.aload_n 0, 1) := by decide +kernel
theorem zd_M_faults_53 : decode zc_M_faults 53 = .ok (.getfield 13, 3) := by decide +kernel
theorem zd_M_faults_56 : decode zc_M_faults 56 = .ok (.iload_n 1, 1) := by decide +kernel
theorem zd_M_faults_57 : decode zc_M_faults 57 = .ok (.iload_n 2, 1) := by decide +kernel
theorem zd_M_faults_58 : decode zc_M_faults 58 = .ok (.iastore, 1) := by decide +kernel
theorem zd_M_faults_59 : decode zc_M_faults 59 = .ok (.aload_n 0, 1) := by decide +kernel
theorem zd_M_faults_60 : decode zc_M_faults 60 = .ok (.aload_n 0, 1) := by decide +kernel
theorem zd_M_faults_61 : decode zc_M_faults 61 = .ok (.getfield 57, 3) := by decide +kernel
theorem zd_M_faults_64 : decode zc_M_faults 64 = .ok (.ifCond .eq 11, 3) := by decide +kernel
theorem zd_M_faults_67 : decode zc_M_faults 67 = .ok (.iload_n 3, 1) := by decide +kernel
theorem zd_M_faults_68 : decode zc_M_faults 68 = .ok (.ifCond .ne 7, 3) := by decide +kernel
theorem zd_M_faults_71 : decode zc_M_faults 71 = .ok (.iconst 1, 1) := by decide +kernel
theorem zd_M_faults_72 : decode zc_M_faults 72 = .ok (.goto 4, 3) := by decide +kernel
theorem zd_M_faults_75 : decode zc_M_faults 75 = .ok (.iconst 0, 1) := by decide +kernel
theorem zd_M_faults_76 : decode zc_M_faults 76 = .ok (.putfield 57, 3) := by decide +kernel
theorem zd_M_faults_79 : decode zc_M_faults 79 = .ok (.iload_n 3, 1) := by decide +kernel
theorem zd_M_faults_80 : decode zc_M_faults 80 = .ok (.ireturn, 1) := by decide +kernel
theorem zd_M_isBehind_0 : decode zc_M_isBehind 0 = .ok (.iconst 0, 1) := by decide +kernel
theorem zd_M_isBehind_1 : decode zc_M_isBehind 1 = .ok (.istore_n 2, 1) := by decide +kernel
theorem zd_M_isBehind_2 : decode zc_M_isBehind 2 = .ok (.iconst 0, 1) := by decide +kernel
theorem zd_M_isBehind_3 : decode zc_M_isBehind 3 = .ok (.istore_n 3, 1) := by decide +kernel
theorem zd_M_isBehind_4 : decode zc_M_isBehind 4 = .ok (.iload_n 3, 1) := by decide +kernel
theorem zd_M_isBehind_5 : decode zc_M_isBehind 5 = .ok (.iload_n 1, 1) := by decide +kernel
theorem zd_M_isBehind_6 : decode zc_M_isBehind 6 = .ok (.if_icmp .ge 37, 3) := by decide +kernel
theorem zd_M_isBehind_9 : decode zc_M_isBehind 9 = .ok (.iload_n 2, 1) := by decide +kernel
theorem zd_M_isBehind_10 : decode zc_M_isBehind 10 = .ok (.ifCond .ne 21, 3) := by decide +kernel
theorem zd_M_isBehind_13 : decode zc_M_isBehind 13 = .ok (.aload_n 0, 1) := by decide +kernel
theorem zd_M_isBehind_14 : decode zc_M_isBehind 14 = .ok (.getfield 20, 3) := by decide +kernel
theorem zd_M_isBehind_17 : decode zc_M_isBehind 17 = .ok (.iload_n 3, 1) := by decide +kernel
theorem zd_M_isBehind_18 : decode zc_M_isBehind 18 = .ok (.baload, 1) := by decide +kernel
theorem zd_M_isBehind_19 : decode zc_M_isBehind 19 = .ok (.ifCond .eq 16, 3) := by decide +kernel
theorem zd_M_isBehind_22 : decode zc_M_isBehind 22 = .ok (.aload_n 0, 1) := by decide +kernel
theorem zd_M_isBehind_23 : decode zc_M_isBehind 23 = .ok (.getfield 27, 3) := by decide +kernel
theorem zd_M_isBehind_26 : decode zc_M_isBehind 26 = .ok (.iload_n 3, 1) := by decide +kernel
theorem zd_M_isBehind_27 : decode zc_M_isBehind 27 = .ok (.iaload, 1) := by decide +kernel
theorem zd_M_isBehind_28 : decode zc_M_isBehind 28 = .ok (.ifCond .le 7, 3) := by decide +kernel
theorem zd_M_isBehind_31 : decode zc_M_isBehind 31 = .ok (.iconst 1, 1) := by decide +kernel
theorem zd_M_isBehind_32 : decode zc_M_isBehind 32 = .ok (.goto 4, 3) := by decide +kernel
theorem zd_M_isBehind_35 : decode zc_M_isBehind 35 = .ok (.iconst 0, 1) := by decide +kernel
theorem zd_M_isBehind_36 : decode zc_M_isBehind 36 = .ok (.istore_n 2, 1) := by decide +kernel
theorem zd_M_isBehind_37 : decode zc_M_isBehind 37 = .ok (.iinc 3 1, 3) := by decide +kernel
theorem zd_M_isBehind_40 : decode zc_M_isBehind 40 = .ok (.goto (-36), 3) := by decide +kernel
theorem zd_M_isBehind_43 : decode zc_M_isBehind 43 = .ok (.iload_n 2, 1) := by decide +kernel
theorem zd_M_isBehind_44 : decode zc_M_isBehind 44 = .ok (.ireturn, 1) := by decide +kernel
theorem zd_M_isHeld_0 : decode zc_M_isHeld 0 = .ok (.iconst 0, 1) := by decide +kernel
theorem zd_M_isHeld_1 : decode zc_M_isHeld 1 = .ok (.istore_n 2, 1) := by decide +kernel
theorem zd_M_isHeld_2 : decode zc_M_isHeld 2 = .ok (.iconst 0, 1) := by decide +kernel
theorem zd_M_isHeld_3 : decode zc_M_isHeld 3 = .ok (.istore_n 3, 1) := by decide +kernel
theorem zd_M_isHeld_4 : decode zc_M_isHeld 4 = .ok (.iload_n 3, 1) := by decide +kernel
theorem zd_M_isHeld_5 : decode zc_M_isHeld 5 = .ok (.aload_n 0, 1) := by decide +kernel
theorem zd_M_isHeld_6 : decode zc_M_isHeld 6 = .ok (.getfield 61, 3) := by decide +kernel
theorem zd_M_isHeld_9 : decode zc_M_isHeld 9 = .ok (.if_icmp .ge 29, 3) := by decide +kernel
theorem zd_M_isHeld_12 : decode zc_M_isHeld 12 = .ok (.iload_n 2, 1) := by decide +kernel
theorem zd_M_isHeld_13 : decode zc_M_isHeld 13 = .ok (.ifCond .ne 13, 3) := by decide +kernel
theorem zd_M_isHeld_16 : decode zc_M_isHeld 16 = .ok (.aload_n 0, 1) := by decide +kernel
theorem zd_M_isHeld_17 : decode zc_M_isHeld 17 = .ok (.getfield 33, 3) := by decide +kernel
theorem zd_M_isHeld_20 : decode zc_M_isHeld 20 = .ok (.iload_n 3, 1) := by decide +kernel
theorem zd_M_isHeld_21 : decode zc_M_isHeld 21 = .ok (.iaload, 1) := by decide +kernel
theorem zd_M_isHeld_22 : decode zc_M_isHeld 22 = .ok (.iload_n 1, 1) := by decide +kernel
theorem zd_M_isHeld_23 : decode zc_M_isHeld 23 = .ok (.if_icmp .ne 7, 3) := by decide +kernel
theorem zd_M_isHeld_26 : decode zc_M_isHeld 26 = .ok (.iconst 1, 1) := by decide +kernel
theorem zd_M_isHeld_27 : decode zc_M_isHeld 27 = .ok (.goto 4, 3) := by decide +kernel
theorem zd_M_isHeld_30 : decode zc_M_isHeld 30 = .ok (.iconst 0, 1) := by decide +kernel
theorem zd_M_isHeld_31 : decode zc_M_isHeld 31 = .ok (.istore_n 2, 1) := by decide +kernel
theorem zd_M_isHeld_32 : decode zc_M_isHeld 32 = .ok (.iinc 3 1, 3) := by decide +kernel
theorem zd_M_isHeld_35 : decode zc_M_isHeld 35 = .ok (.goto (-31), 3) := by decide +kernel
theorem zd_M_isHeld_38 : decode zc_M_isHeld 38 = .ok (.iload_n 2, 1) := by decide +kernel
theorem zd_M_isHeld_39 : decode zc_M_isHeld 39 = .ok (.ireturn, 1) := by decide +kernel
theorem zd_M_waits_0 : decode zc_M_waits 0 = .ok (.iconst 0, 1) := by decide +kernel
theorem zd_M_waits_1 : decode zc_M_waits 1 = .ok (.istore_n 1, 1) := by decide +kernel
theorem zd_M_waits_2 : decode zc_M_waits 2 = .ok (.iload_n 1, 1) := by decide +kernel
theorem zd_M_waits_3 : decode zc_M_waits 3 = .ok (.aload_n 0, 1) := by decide +kernel
theorem zd_M_waits_4 : decode zc_M_waits 4 = .ok (.getfield 42, 3) := by decide +kernel
theorem zd_M_waits_7 : decode zc_M_waits 7 = .ok (.if_icmp .ge 36, 3) := by decide +kernel
theorem zd_M_waits_10 : decode zc_M_waits 10 = .ok (.aload_n 0, 1) := by decide +kernel
theorem zd_M_waits_11 : decode zc_M_waits 11 = .ok (.getfield 27, 3) := by decide +kernel
theorem zd_M_waits_14 : decode zc_M_waits 14 = .ok (.iload_n 1, 1) := by decide +kernel
theorem zd_M_waits_15 : decode zc_M_waits 15 = .ok (.iaload, 1) := by decide +kernel
theorem zd_M_waits_16 : decode zc_M_waits 16 = .ok (.ifCond .ne 21, 3) := by decide +kernel
theorem zd_M_waits_19 : decode zc_M_waits 19 = .ok (.aload_n 0, 1) := by decide +kernel
theorem zd_M_waits_20 : decode zc_M_waits 20 = .ok (.iload_n 1, 1) := by decide +kernel
theorem zd_M_waits_21 : decode zc_M_waits 21 = .ok (.invokevirtual 64, 3) := by decide +kernel
theorem zd_M_waits_24 : decode zc_M_waits 24 = .ok (.ifCond .ne 13, 3) := by decide +kernel
theorem zd_M_waits_27 : decode zc_M_waits 27 = .ok (.aload_n 0, 1) := by decide +kernel
theorem zd_M_waits_28 : decode zc_M_waits 28 = .ok (.iload_n 1, 1) := by decide +kernel
theorem zd_M_waits_29 : decode zc_M_waits 29 = .ok (.invokevirtual 67, 3) := by decide +kernel
theorem zd_M_waits_32 : decode zc_M_waits 32 = .ok (.ifCond .ne 5, 3) := by decide +kernel
theorem zd_M_waits_35 : decode zc_M_waits 35 = .ok (.iload_n 1, 1) := by decide +kernel
theorem zd_M_waits_36 : decode zc_M_waits 36 = .ok (.ireturn, 1) := by decide +kernel
theorem zd_M_waits_37 : decode zc_M_waits 37 = .ok (.iinc 1 1, 3) := by decide +kernel
theorem zd_M_waits_40 : decode zc_M_waits 40 = .ok (.goto (-38), 3) := by decide +kernel
theorem zd_M_waits_43 : decode zc_M_waits 43 = .ok (.iconst (-1), 1) := by decide +kernel
theorem zd_M_waits_44 : decode zc_M_waits 44 = .ok (.ireturn, 1) := by decide +kernel
theorem zd_M_mover_0 : decode zc_M_mover 0 = .ok (.iload_n 1, 1) := by decide +kernel
theorem zd_M_mover_1 : decode zc_M_mover 1 = .ok (.istore_n 3, 1) := by decide +kernel
theorem zd_M_mover_2 : decode zc_M_mover 2 = .ok (.iconst 0, 1) := by decide +kernel
theorem zd_M_mover_3 : decode zc_M_mover 3 = .ok (.istore 4, 2) := by decide +kernel
theorem zd_M_mover_5 : decode zc_M_mover 5 = .ok (.iload 4, 2) := by decide +kernel
theorem zd_M_mover_7 : decode zc_M_mover 7 = .ok (.aload_n 0, 1) := by decide +kernel
theorem zd_M_mover_8 : decode zc_M_mover 8 = .ok (.getfield 61, 3) := by decide +kernel
theorem zd_M_mover_11 : decode zc_M_mover 11 = .ok (.if_icmp .ge 56, 3) := by decide +kernel
theorem zd_M_mover_14 : decode zc_M_mover 14 = .ok (.iload_n 2, 1) := by decide +kernel
theorem zd_M_mover_15 : decode zc_M_mover 15 = .ok (.ifCond .ne 14, 3) := by decide +kernel
theorem zd_M_mover_18 : decode zc_M_mover 18 = .ok (.aload_n 0, 1) := by decide +kernel
theorem zd_M_mover_19 : decode zc_M_mover 19 = .ok (.getfield 33, 3) := by decide +kernel
theorem zd_M_mover_22 : decode zc_M_mover 22 = .ok (.iload 4, 2) := by decide +kernel
theorem zd_M_mover_24 : decode zc_M_mover 24 = .ok (.iaload, 1) := by decide +kernel
theorem zd_M_mover_25 : decode zc_M_mover 25 = .ok (.iconst (-1), 1) := by decide +kernel
theorem zd_M_mover_26 : decode zc_M_mover 26 = .ok (.if_icmp .eq 7, 3) := by decide +kernel
theorem zd_M_mover_29 : decode zc_M_mover 29 = .ok (.iconst 1, 1) := by decide +kernel
theorem zd_M_mover_30 : decode zc_M_mover 30 = .ok (.goto 4, 3) := by decide +kernel
theorem zd_M_mover_33 : decode zc_M_mover 33 = .ok (.iconst 0, 1) := by decide +kernel
theorem zd_M_mover_34 : decode zc_M_mover 34 = .ok (.istore 5, 2) := by decide +kernel
theorem zd_M_mover_36 : decode zc_M_mover 36 = .ok (.iload 5, 2) := by decide +kernel
theorem zd_M_mover_38 : decode zc_M_mover 38 = .ok (.ifCond .eq 10, 3) := by decide +kernel
theorem zd_M_mover_41 : decode zc_M_mover 41 = .ok (.iload_n 3, 1) := by decide +kernel
theorem zd_M_mover_42 : decode zc_M_mover 42 = .ok (.ifCond .ne 6, 3) := by decide +kernel
theorem zd_M_mover_45 : decode zc_M_mover 45 = .ok (.iload 4, 2) := by decide +kernel
theorem zd_M_mover_47 : decode zc_M_mover 47 = .ok (.ireturn, 1) := by decide +kernel
theorem zd_M_mover_48 : decode zc_M_mover 48 = .ok (.iload 5, 2) := by decide +kernel
theorem zd_M_mover_50 : decode zc_M_mover 50 = .ok (.ifCond .eq 9, 3) := by decide +kernel
theorem zd_M_mover_53 : decode zc_M_mover 53 = .ok (.iload_n 3, 1) := by decide +kernel
theorem zd_M_mover_54 : decode zc_M_mover 54 = .ok (.iconst 1, 1) := by decide +kernel
theorem zd_M_mover_55 : decode zc_M_mover 55 = .ok (.isub, 1) := by decide +kernel
theorem zd_M_mover_56 : decode zc_M_mover 56 = .ok (.goto 4, 3) := by decide +kernel
theorem zd_M_mover_59 : decode zc_M_mover 59 = .ok (.iload_n 3, 1) := by decide +kernel
theorem zd_M_mover_60 : decode zc_M_mover 60 = .ok (.istore_n 3, 1) := by decide +kernel
theorem zd_M_mover_61 : decode zc_M_mover 61 = .ok (.iinc 4 1, 3) := by decide +kernel
theorem zd_M_mover_64 : decode zc_M_mover 64 = .ok (.goto (-59), 3) := by decide +kernel
theorem zd_M_mover_67 : decode zc_M_mover 67 = .ok (.iconst (-1), 1) := by decide +kernel
theorem zd_M_mover_68 : decode zc_M_mover 68 = .ok (.ireturn, 1) := by decide +kernel
theorem zd_M_movers_0 : decode zc_M_movers 0 = .ok (.iconst 0, 1) := by decide +kernel
theorem zd_M_movers_1 : decode zc_M_movers 1 = .ok (.istore_n 2, 1) := by decide +kernel
theorem zd_M_movers_2 : decode zc_M_movers 2 = .ok (.iconst 0, 1) := by decide +kernel
theorem zd_M_movers_3 : decode zc_M_movers 3 = .ok (.istore_n 3, 1) := by decide +kernel
theorem zd_M_movers_4 : decode zc_M_movers 4 = .ok (.iload_n 3, 1) := by decide +kernel
theorem zd_M_movers_5 : decode zc_M_movers 5 = .ok (.aload_n 0, 1) := by decide +kernel
theorem zd_M_movers_6 : decode zc_M_movers 6 = .ok (.getfield 61, 3) := by decide +kernel
theorem zd_M_movers_9 : decode zc_M_movers 9 = .ok (.if_icmp .ge 31, 3) := by decide +kernel
theorem zd_M_movers_12 : decode zc_M_movers 12 = .ok (.iload_n 1, 1) := by decide +kernel
theorem zd_M_movers_13 : decode zc_M_movers 13 = .ok (.ifCond .ne 13, 3) := by decide +kernel
theorem zd_M_movers_16 : decode zc_M_movers 16 = .ok (.aload_n 0, 1) := by decide +kernel
theorem zd_M_movers_17 : decode zc_M_movers 17 = .ok (.getfield 33, 3) := by decide +kernel
theorem zd_M_movers_20 : decode zc_M_movers 20 = .ok (.iload_n 3, 1) := by decide +kernel
theorem zd_M_movers_21 : decode zc_M_movers 21 = .ok (.iaload, 1) := by decide +kernel
theorem zd_M_movers_22 : decode zc_M_movers 22 = .ok (.iconst (-1), 1) := by decide +kernel
theorem zd_M_movers_23 : decode zc_M_movers 23 = .ok (.if_icmp .eq 9, 3) := by decide +kernel
theorem zd_M_movers_26 : decode zc_M_movers 26 = .ok (.iload_n 2, 1) := by decide +kernel
theorem zd_M_movers_27 : decode zc_M_movers 27 = .ok (.iconst 1, 1) := by decide +kernel
theorem zd_M_movers_28 : decode zc_M_movers 28 = .ok (.iadd, 1) := by decide +kernel
theorem zd_M_movers_29 : decode zc_M_movers 29 = .ok (.goto 4, 3) := by decide +kernel
theorem zd_M_movers_32 : decode zc_M_movers 32 = .ok (.iload_n 2, 1) := by decide +kernel
theorem zd_M_movers_33 : decode zc_M_movers 33 = .ok (.istore_n 2, 1) := by decide +kernel
theorem zd_M_movers_34 : decode zc_M_movers 34 = .ok (.iinc 3 1, 3) := by decide +kernel
theorem zd_M_movers_37 : decode zc_M_movers 37 = .ok (.goto (-33), 3) := by decide +kernel
theorem zd_M_movers_40 : decode zc_M_movers 40 = .ok (.iload_n 2, 1) := by decide +kernel
theorem zd_M_movers_41 : decode zc_M_movers 41 = .ok (.ireturn, 1) := by decide +kernel
theorem zd_M_tick_0 : decode zc_M_tick 0 = .ok (.aload_n 0, 1) := by decide +kernel
theorem zd_M_tick_1 : decode zc_M_tick 1 = .ok (.getfield 33, 3) := by decide +kernel
theorem zd_M_tick_4 : decode zc_M_tick 4 = .ok (.iload_n 1, 1) := by decide +kernel
theorem zd_M_tick_5 : decode zc_M_tick 5 = .ok (.iaload, 1) := by decide +kernel
theorem zd_M_tick_6 : decode zc_M_tick 6 = .ok (.iconst (-1), 1) := by decide +kernel
theorem zd_M_tick_7 : decode zc_M_tick 7 = .ok (.if_icmp .ne 10, 3) := by decide +kernel
theorem zd_M_tick_10 : decode zc_M_tick 10 = .ok (.aload_n 0, 1) := by decide +kernel
theorem zd_M_tick_11 : decode zc_M_tick 11 = .ok (.getfield 33, 3) := by decide +kernel
theorem zd_M_tick_14 : decode zc_M_tick 14 = .ok (.iload_n 1, 1) := by decide +kernel
theorem zd_M_tick_15 : decode zc_M_tick 15 = .ok (.iload_n 2, 1) := by decide +kernel
theorem zd_M_tick_16 : decode zc_M_tick 16 = .ok (.iastore, 1) := by decide +kernel
theorem zd_M_tick_17 : decode zc_M_tick 17 = .ok (.aload_n 0, 1) := by decide +kernel
theorem zd_M_tick_18 : decode zc_M_tick 18 = .ok (.getfield 33, 3) := by decide +kernel
theorem zd_M_tick_21 : decode zc_M_tick 21 = .ok (.iload_n 1, 1) := by decide +kernel
theorem zd_M_tick_22 : decode zc_M_tick 22 = .ok (.iaload, 1) := by decide +kernel
theorem zd_M_tick_23 : decode zc_M_tick 23 = .ok (.istore_n 3, 1) := by decide +kernel
theorem zd_M_tick_24 : decode zc_M_tick 24 = .ok (.aload_n 0, 1) := by decide +kernel
theorem zd_M_tick_25 : decode zc_M_tick 25 = .ok (.dup, 1) := by decide +kernel
theorem zd_M_tick_26 : decode zc_M_tick 26 = .ok (.getfield 70, 3) := by decide +kernel
theorem zd_M_tick_29 : decode zc_M_tick 29 = .ok (.iconst 1, 1) := by decide +kernel
theorem zd_M_tick_30 : decode zc_M_tick 30 = .ok (.iadd, 1) := by decide +kernel
theorem zd_M_tick_31 : decode zc_M_tick 31 = .ok (.putfield 70, 3) := by decide +kernel
theorem zd_M_tick_34 : decode zc_M_tick 34 = .ok (.aload_n 0, 1) := by decide +kernel
theorem zd_M_tick_35 : decode zc_M_tick 35 = .ok (.getfield 36, 3) := by decide +kernel
theorem zd_M_tick_38 : decode zc_M_tick 38 = .ok (.iload_n 1, 1) := by decide +kernel
theorem zd_M_tick_39 : decode zc_M_tick 39 = .ok (.dup2, 1) := by decide +kernel
theorem zd_M_tick_40 : decode zc_M_tick 40 = .ok (.iaload, 1) := by decide +kernel
theorem zd_M_tick_41 : decode zc_M_tick 41 = .ok (.iconst 1, 1) := by decide +kernel
theorem zd_M_tick_42 : decode zc_M_tick 42 = .ok (.iadd, 1) := by decide +kernel
theorem zd_M_tick_43 : decode zc_M_tick 43 = .ok (.iastore, 1) := by decide +kernel
theorem zd_M_tick_44 : decode zc_M_tick 44 = .ok (.aload_n 0, 1) := by decide +kernel
theorem zd_M_tick_45 : decode zc_M_tick 45 = .ok (.getfield 24, 3) := by decide +kernel
theorem zd_M_tick_48 : decode zc_M_tick 48 = .ok (.iload_n 3, 1) := by decide +kernel
theorem zd_M_tick_49 : decode zc_M_tick 49 = .ok (.dup2, 1) := by decide +kernel
theorem zd_M_tick_50 : decode zc_M_tick 50 = .ok (.iaload, 1) := by decide +kernel
theorem zd_M_tick_51 : decode zc_M_tick 51 = .ok (.iconst 1, 1) := by decide +kernel
theorem zd_M_tick_52 : decode zc_M_tick 52 = .ok (.iadd, 1) := by decide +kernel
theorem zd_M_tick_53 : decode zc_M_tick 53 = .ok (.iastore, 1) := by decide +kernel
theorem zd_M_tick_54 : decode zc_M_tick 54 = .ok (.aload_n 0, 1) := by decide +kernel
theorem zd_M_tick_55 : decode zc_M_tick 55 = .ok (.getfield 24, 3) := by decide +kernel
theorem zd_M_tick_58 : decode zc_M_tick 58 = .ok (.iload_n 3, 1) := by decide +kernel
theorem zd_M_tick_59 : decode zc_M_tick 59 = .ok (.iaload, 1) := by decide +kernel
theorem zd_M_tick_60 : decode zc_M_tick 60 = .ok (.aload_n 0, 1) := by decide +kernel
theorem zd_M_tick_61 : decode zc_M_tick 61 = .ok (.getfield 7, 3) := by decide +kernel
theorem zd_M_tick_64 : decode zc_M_tick 64 = .ok (.iload_n 3, 1) := by decide +kernel
theorem zd_M_tick_65 : decode zc_M_tick 65 = .ok (.iaload, 1) := by decide +kernel
theorem zd_M_tick_66 : decode zc_M_tick 66 = .ok (.aload_n 0, 1) := by decide +kernel
theorem zd_M_tick_67 : decode zc_M_tick 67 = .ok (.getfield 13, 3) := by decide +kernel
theorem zd_M_tick_70 : decode zc_M_tick 70 = .ok (.iload_n 3, 1) := by decide +kernel
theorem zd_M_tick_71 : decode zc_M_tick 71 = .ok (.iaload, 1) := by decide +kernel
theorem zd_M_tick_72 : decode zc_M_tick 72 = .ok (.iconst 1, 1) := by decide +kernel
theorem zd_M_tick_73 : decode zc_M_tick 73 = .ok (.iadd, 1) := by decide +kernel
theorem zd_M_tick_74 : decode zc_M_tick 74 = .ok (.imul, 1) := by decide +kernel
theorem zd_M_tick_75 : decode zc_M_tick 75 = .ok (.if_icmp .ge 4, 3) := by decide +kernel
theorem zd_M_tick_78 : decode zc_M_tick 78 = .ok (.return_, 1) := by decide +kernel
theorem zd_M_tick_79 : decode zc_M_tick 79 = .ok (.aload_n 0, 1) := by decide +kernel
theorem zd_M_tick_80 : decode zc_M_tick 80 = .ok (.getfield 27, 3) := by decide +kernel
theorem zd_M_tick_83 : decode zc_M_tick 83 = .ok (.iload_n 3, 1) := by decide +kernel
theorem zd_M_tick_84 : decode zc_M_tick 84 = .ok (.aload_n 0, 1) := by decide +kernel
theorem zd_M_tick_85 : decode zc_M_tick 85 = .ok (.getfield 70, 3) := by decide +kernel
theorem zd_M_tick_88 : decode zc_M_tick 88 = .ok (.iastore, 1) := by decide +kernel
theorem zd_M_tick_89 : decode zc_M_tick 89 = .ok (.aload_n 0, 1) := by decide +kernel
theorem zd_M_tick_90 : decode zc_M_tick 90 = .ok (.getfield 30, 3) := by decide +kernel
theorem zd_M_tick_93 : decode zc_M_tick 93 = .ok (.iload_n 3, 1) := by decide +kernel
theorem zd_M_tick_94 : decode zc_M_tick 94 = .ok (.iload_n 1, 1) := by decide +kernel
theorem zd_M_tick_95 : decode zc_M_tick 95 = .ok (.iastore, 1) := by decide +kernel
theorem zd_M_tick_96 : decode zc_M_tick 96 = .ok (.aload_n 0, 1) := by decide +kernel
theorem zd_M_tick_97 : decode zc_M_tick 97 = .ok (.getfield 39, 3) := by decide +kernel
theorem zd_M_tick_100 : decode zc_M_tick 100 = .ok (.aload_n 0, 1) := by decide +kernel
theorem zd_M_tick_101 : decode zc_M_tick 101 = .ok (.getfield 73, 3) := by decide +kernel
theorem zd_M_tick_104 : decode zc_M_tick 104 = .ok (.iload_n 3, 1) := by decide +kernel
theorem zd_M_tick_105 : decode zc_M_tick 105 = .ok (.iastore, 1) := by decide +kernel
theorem zd_M_tick_106 : decode zc_M_tick 106 = .ok (.aload_n 0, 1) := by decide +kernel
theorem zd_M_tick_107 : decode zc_M_tick 107 = .ok (.dup, 1) := by decide +kernel
theorem zd_M_tick_108 : decode zc_M_tick 108 = .ok (.getfield 73, 3) := by decide +kernel
theorem zd_M_tick_111 : decode zc_M_tick 111 = .ok (.iconst 1, 1) := by decide +kernel
theorem zd_M_tick_112 : decode zc_M_tick 112 = .ok (.iadd, 1) := by decide +kernel
theorem zd_M_tick_113 : decode zc_M_tick 113 = .ok (.putfield 73, 3) := by decide +kernel
theorem zd_M_tick_116 : decode zc_M_tick 116 = .ok (.aload_n 0, 1) := by decide +kernel
theorem zd_M_tick_117 : decode zc_M_tick 117 = .ok (.getfield 33, 3) := by decide +kernel
theorem zd_M_tick_120 : decode zc_M_tick 120 = .ok (.iload_n 1, 1) := by decide +kernel
theorem zd_M_tick_121 : decode zc_M_tick 121 = .ok (.iconst (-1), 1) := by decide +kernel
theorem zd_M_tick_122 : decode zc_M_tick 122 = .ok (.iastore, 1) := by decide +kernel
theorem zd_M_tick_123 : decode zc_M_tick 123 = .ok (.iconst 0, 1) := by decide +kernel
theorem zd_M_tick_124 : decode zc_M_tick 124 = .ok (.istore 4, 2) := by decide +kernel
theorem zd_M_tick_126 : decode zc_M_tick 126 = .ok (.iload 4, 2) := by decide +kernel
theorem zd_M_tick_128 : decode zc_M_tick 128 = .ok (.aload_n 0, 1) := by decide +kernel
theorem zd_M_tick_129 : decode zc_M_tick 129 = .ok (.getfield 61, 3) := by decide +kernel
theorem zd_M_tick_132 : decode zc_M_tick 132 = .ok (.if_icmp .ge 37, 3) := by decide +kernel
theorem zd_M_tick_135 : decode zc_M_tick 135 = .ok (.aload_n 0, 1) := by decide +kernel
theorem zd_M_tick_136 : decode zc_M_tick 136 = .ok (.getfield 20, 3) := by decide +kernel
theorem zd_M_tick_139 : decode zc_M_tick 139 = .ok (.iload_n 3, 1) := by decide +kernel
theorem zd_M_tick_140 : decode zc_M_tick 140 = .ok (.baload, 1) := by decide +kernel
theorem zd_M_tick_141 : decode zc_M_tick 141 = .ok (.ifCond .eq 22, 3) := by decide +kernel
theorem zd_M_tick_144 : decode zc_M_tick 144 = .ok (.aload_n 0, 1) := by decide +kernel
theorem zd_M_tick_145 : decode zc_M_tick 145 = .ok (.getfield 33, 3) := by decide +kernel
theorem zd_M_tick_148 : decode zc_M_tick 148 = .ok (.iload 4, 2) := by decide +kernel
theorem zd_M_tick_150 : decode zc_M_tick 150 = .ok (.iaload, 1) := by decide +kernel
theorem zd_M_tick_151 : decode zc_M_tick 151 = .ok (.iload_n 3, 1) := by decide +kernel
theorem zd_M_tick_152 : decode zc_M_tick 152 = .ok (.if_icmp .le 11, 3) := by decide +kernel
theorem zd_M_tick_155 : decode zc_M_tick 155 = .ok (.aload_n 0, 1) := by decide +kernel
theorem zd_M_tick_156 : decode zc_M_tick 156 = .ok (.getfield 33, 3) := by decide +kernel
theorem zd_M_tick_159 : decode zc_M_tick 159 = .ok (.iload 4, 2) := by decide +kernel
theorem zd_M_tick_161 : decode zc_M_tick 161 = .ok (.iconst (-1), 1) := by decide +kernel
theorem zd_M_tick_162 : decode zc_M_tick 162 = .ok (.iastore, 1) := by decide +kernel
theorem zd_M_tick_163 : decode zc_M_tick 163 = .ok (.iinc 4 1, 3) := by decide +kernel
theorem zd_M_tick_166 : decode zc_M_tick 166 = .ok (.goto (-40), 3) := by decide +kernel
theorem zd_M_tick_169 : decode zc_M_tick 169 = .ok (.return_, 1) := by decide +kernel
theorem zd_M_winner_0 : decode zc_M_winner 0 = .ok (.iconst 0, 1) := by decide +kernel
theorem zd_M_winner_1 : decode zc_M_winner 1 = .ok (.istore_n 1, 1) := by decide +kernel
theorem zd_M_winner_2 : decode zc_M_winner 2 = .ok (.iload_n 1, 1) := by decide +kernel
theorem zd_M_winner_3 : decode zc_M_winner 3 = .ok (.aload_n 0, 1) := by decide +kernel
theorem zd_M_winner_4 : decode zc_M_winner 4 = .ok (.getfield 42, 3) := by decide +kernel
theorem zd_M_winner_7 : decode zc_M_winner 7 = .ok (.if_icmp .ge 20, 3) := by decide +kernel
theorem zd_M_winner_10 : decode zc_M_winner 10 = .ok (.aload_n 0, 1) := by decide +kernel
theorem zd_M_winner_11 : decode zc_M_winner 11 = .ok (.getfield 20, 3) := by decide +kernel
theorem zd_M_winner_14 : decode zc_M_winner 14 = .ok (.iload_n 1, 1) := by decide +kernel
theorem zd_M_winner_15 : decode zc_M_winner 15 = .ok (.baload, 1) := by decide +kernel
theorem zd_M_winner_16 : decode zc_M_winner 16 = .ok (.ifCond .eq 5, 3) := by decide +kernel
theorem zd_M_winner_19 : decode zc_M_winner 19 = .ok (.iload_n 1, 1) := by decide +kernel
theorem zd_M_winner_20 : decode zc_M_winner 20 = .ok (.ireturn, 1) := by decide +kernel
theorem zd_M_winner_21 : decode zc_M_winner 21 = .ok (.iinc 1 1, 3) := by decide +kernel
theorem zd_M_winner_24 : decode zc_M_winner 24 = .ok (.goto (-22), 3) := by decide +kernel
theorem zd_M_winner_27 : decode zc_M_winner 27 = .ok (.iconst (-1), 1) := by decide +kernel
theorem zd_M_winner_28 : decode zc_M_winner 28 = .ok (.ireturn, 1) := by decide +kernel
theorem zd_M_run_0 : decode zc_M_run 0 = .ok (.aload_n 0, 1) := by decide +kernel
theorem zd_M_run_1 : decode zc_M_run 1 = .ok (.iload_n 1, 1) := by decide +kernel
theorem zd_M_run_2 : decode zc_M_run 2 = .ok (.iconst 1, 1) := by decide +kernel
theorem zd_M_run_3 : decode zc_M_run 3 = .ok (.if_icmp .lt 22, 3) := by decide +kernel
theorem zd_M_run_6 : decode zc_M_run 6 = .ok (.iload_n 1, 1) := by decide +kernel
theorem zd_M_run_7 : decode zc_M_run 7 = .ok (.bipush 16, 2) := by decide +kernel
theorem zd_M_run_9 : decode zc_M_run 9 = .ok (.if_icmp .gt 16, 3) := by decide +kernel
theorem zd_M_run_12 : decode zc_M_run 12 = .ok (.iload 4, 2) := by decide +kernel
theorem zd_M_run_14 : decode zc_M_run 14 = .ok (.ifCond .lt 11, 3) := by decide +kernel
theorem zd_M_run_17 : decode zc_M_run 17 = .ok (.iload 4, 2) := by decide +kernel
theorem zd_M_run_19 : decode zc_M_run 19 = .ok (.sipush 10000, 3) := by decide +kernel
theorem zd_M_run_22 : decode zc_M_run 22 = .ok (.if_icmp .le 7, 3) := by decide +kernel
theorem zd_M_run_25 : decode zc_M_run 25 = .ok (.iconst 1, 1) := by decide +kernel
theorem zd_M_run_26 : decode zc_M_run 26 = .ok (.goto 4, 3) := by decide +kernel
theorem zd_M_run_29 : decode zc_M_run 29 = .ok (.iconst 0, 1) := by decide +kernel
theorem zd_M_run_30 : decode zc_M_run 30 = .ok (.iconst 0, 1) := by decide +kernel
theorem zd_M_run_31 : decode zc_M_run 31 = .ok (.invokevirtual 53, 3) := by decide +kernel
theorem zd_M_run_34 : decode zc_M_run 34 = .ok (.ifCond .eq 5, 3) := by decide +kernel
theorem zd_M_run_37 : decode zc_M_run 37 = .ok (.iconst 0, 1) := by decide +kernel
theorem zd_M_run_38 : decode zc_M_run 38 = .ok (.ireturn, 1) := by decide +kernel
theorem zd_M_run_39 : decode zc_M_run 39 = .ok (.aload_n 0, 1) := by decide +kernel
theorem zd_M_run_40 : decode zc_M_run 40 = .ok (.iload_n 1, 1) := by decide +kernel
theorem zd_M_run_41 : decode zc_M_run 41 = .ok (.putfield 61, 3) := by decide +kernel
theorem zd_M_run_44 : decode zc_M_run 44 = .ok (.aload_n 0, 1) := by decide +kernel
theorem zd_M_run_45 : decode zc_M_run 45 = .ok (.iconst 0, 1) := by decide +kernel
theorem zd_M_run_46 : decode zc_M_run 46 = .ok (.putfield 70, 3) := by decide +kernel
theorem zd_M_run_49 : decode zc_M_run 49 = .ok (.aload_n 0, 1) := by decide +kernel
theorem zd_M_run_50 : decode zc_M_run 50 = .ok (.iconst 0, 1) := by decide +kernel
theorem zd_M_run_51 : decode zc_M_run 51 = .ok (.putfield 73, 3) := by decide +kernel
theorem zd_M_run_54 : decode zc_M_run 54 = .ok (.iconst 0, 1) := by decide +kernel
theorem zd_M_run_55 : decode zc_M_run 55 = .ok (.istore 5, 2) := by decide +kernel
theorem zd_M_run_57 : decode zc_M_run 57 = .ok (.iload 5, 2) := by decide +kernel
theorem zd_M_run_59 : decode zc_M_run 59 = .ok (.bipush 16, 2) := by decide +kernel
theorem zd_M_run_61 : decode zc_M_run 61 = .ok (.if_icmp .ge 49, 3) := by decide +kernel
theorem zd_M_run_64 : decode zc_M_run 64 = .ok (.aload_n 0, 1) := by decide +kernel
theorem zd_M_run_65 : decode zc_M_run 65 = .ok (.getfield 24, 3) := by decide +kernel
theorem zd_M_run_68 : decode zc_M_run 68 = .ok (.iload 5, 2) := by decide +kernel
theorem zd_M_run_70 : decode zc_M_run 70 = .ok (.iconst 0, 1) := by decide +kernel
theorem zd_M_run_71 : decode zc_M_run 71 = .ok (.iastore, 1) := by decide +kernel
theorem zd_M_run_72 : decode zc_M_run 72 = .ok (.aload_n 0, 1) := by decide +kernel
theorem zd_M_run_73 : decode zc_M_run 73 = .ok (.getfield 27, 3) := by decide +kernel
theorem zd_M_run_76 : decode zc_M_run 76 = .ok (.iload 5, 2) := by decide +kernel
theorem zd_M_run_78 : decode zc_M_run 78 = .ok (.iconst 0, 1) := by decide +kernel
theorem zd_M_run_79 : decode zc_M_run 79 = .ok (.iastore, 1) := by decide +kernel
theorem zd_M_run_80 : decode zc_M_run 80 = .ok (.aload_n 0, 1) := by decide +kernel
theorem zd_M_run_81 : decode zc_M_run 81 = .ok (.getfield 30, 3) := by decide +kernel
theorem zd_M_run_84 : decode zc_M_run 84 = .ok (.iload 5, 2) := by decide +kernel
theorem zd_M_run_86 : decode zc_M_run 86 = .ok (.iconst (-1), 1) := by decide +kernel
theorem zd_M_run_87 : decode zc_M_run 87 = .ok (.iastore, 1) := by decide +kernel
theorem zd_M_run_88 : decode zc_M_run 88 = .ok (.aload_n 0, 1) := by decide +kernel
theorem zd_M_run_89 : decode zc_M_run 89 = .ok (.getfield 33, 3) := by decide +kernel
theorem zd_M_run_92 : decode zc_M_run 92 = .ok (.iload 5, 2) := by decide +kernel
theorem zd_M_run_94 : decode zc_M_run 94 = .ok (.iconst (-1), 1) := by decide +kernel
theorem zd_M_run_95 : decode zc_M_run 95 = .ok (.iastore, 1) := by decide +kernel
theorem zd_M_run_96 : decode zc_M_run 96 = .ok (.aload_n 0, 1) := by decide +kernel
theorem zd_M_run_97 : decode zc_M_run 97 = .ok (.getfield 36, 3) := by decide +kernel
theorem zd_M_run_100 : decode zc_M_run 100 = .ok (.iload 5, 2) := by decide +kernel
theorem zd_M_run_102 : decode zc_M_run 102 = .ok (.iconst 0, 1) := by decide +kernel
theorem zd_M_run_103 : decode zc_M_run 103 = .ok (.iastore, 1) := by decide +kernel
theorem zd_M_run_104 : decode zc_M_run 104 = .ok (.iinc 5 1, 3) := by decide +kernel
theorem zd_M_run_107 : decode zc_M_run 107 = .ok (.goto (-50), 3) := by decide +kernel
theorem zd_M_run_110 : decode zc_M_run 110 = .ok (.lload_n 2, 1) := by decide +kernel
theorem zd_M_run_111 : decode zc_M_run 111 = .ok (.lstore 5, 2) := by decide +kernel
theorem zd_M_run_113 : decode zc_M_run 113 = .ok (.aload_n 0, 1) := by decide +kernel
theorem zd_M_run_114 : decode zc_M_run 114 = .ok (.invokevirtual 76, 3) := by decide +kernel
theorem zd_M_run_117 : decode zc_M_run 117 = .ok (.istore 7, 2) := by decide +kernel
theorem zd_M_run_119 : decode zc_M_run 119 = .ok (.aload_n 0, 1) := by decide +kernel
theorem zd_M_run_120 : decode zc_M_run 120 = .ok (.iload 7, 2) := by decide +kernel
theorem zd_M_run_122 : decode zc_M_run 122 = .ok (.iconst (-1), 1) := by decide +kernel
theorem zd_M_run_123 : decode zc_M_run 123 = .ok (.if_icmp .eq 7, 3) := by decide +kernel
theorem zd_M_run_126 : decode zc_M_run 126 = .ok (.iconst 1, 1) := by decide +kernel
theorem zd_M_run_127 : decode zc_M_run 127 = .ok (.goto 4, 3) := by decide +kernel
theorem zd_M_run_130 : decode zc_M_run 130 = .ok (.iconst 0, 1) := by decide +kernel
theorem zd_M_run_131 : decode zc_M_run 131 = .ok (.invokevirtual 80, 3) := by decide +kernel
theorem zd_M_run_134 : decode zc_M_run 134 = .ok (.istore 8, 2) := by decide +kernel
theorem zd_M_run_136 : decode zc_M_run 136 = .ok (.iload 8, 2) := by decide +kernel
theorem zd_M_run_138 : decode zc_M_run 138 = .ok (.ifCond .le 80, 3) := by decide +kernel
theorem zd_M_run_141 : decode zc_M_run 141 = .ok (.aload_n 0, 1) := by decide +kernel
theorem zd_M_run_142 : decode zc_M_run 142 = .ok (.getfield 70, 3) := by decide +kernel
theorem zd_M_run_145 : decode zc_M_run 145 = .ok (.iload 4, 2) := by decide +kernel
theorem zd_M_run_147 : decode zc_M_run 147 = .ok (.if_icmp .ge 71, 3) := by decide +kernel
theorem zd_M_run_150 : decode zc_M_run 150 = .ok (.lload 5, 2) := by decide +kernel
theorem zd_M_run_152 : decode zc_M_run 152 = .ok (.ldc2_w 84, 3) := by decide +kernel
theorem zd_M_run_155 : decode zc_M_run 155 = .ok (.lmul, 1) := by decide +kernel
theorem zd_M_run_156 : decode zc_M_run 156 = .ok (.ldc2_w 86, 3) := by decide +kernel
theorem zd_M_run_159 : decode zc_M_run 159 = .ok (.ladd, 1) := by decide +kernel
theorem zd_M_run_160 : decode zc_M_run 160 = .ok (.lstore 5, 2) := by decide +kernel
theorem zd_M_run_162 : decode zc_M_run 162 = .ok (.aload_n 0, 1) := by decide +kernel
theorem zd_M_run_163 : decode zc_M_run 163 = .ok (.aload_n 0, 1) := by decide +kernel
theorem zd_M_run_164 : decode zc_M_run 164 = .ok (.lload 5, 2) := by decide +kernel
theorem zd_M_run_166 : decode zc_M_run 166 = .ok (.bipush 33, 2) := by decide +kernel
theorem zd_M_run_168 : decode zc_M_run 168 = .ok (.lushr, 1) := by decide +kernel
theorem zd_M_run_169 : decode zc_M_run 169 = .ok (.l2i, 1) := by decide +kernel
theorem zd_M_run_170 : decode zc_M_run 170 = .ok (.iload 8, 2) := by decide +kernel
theorem zd_M_run_172 : decode zc_M_run 172 = .ok (.irem, 1) := by decide +kernel
theorem zd_M_run_173 : decode zc_M_run 173 = .ok (.iload 7, 2) := by decide +kernel
theorem zd_M_run_175 : decode zc_M_run 175 = .ok (.iconst (-1), 1) := by decide +kernel
theorem zd_M_run_176 : decode zc_M_run 176 = .ok (.if_icmp .eq 7, 3) := by decide +kernel
theorem zd_M_run_179 : decode zc_M_run 179 = .ok (.iconst 1, 1) := by decide +kernel
theorem zd_M_run_180 : decode zc_M_run 180 = .ok (.goto 4, 3) := by decide +kernel
theorem zd_M_run_183 : decode zc_M_run 183 = .ok (.iconst 0, 1) := by decide +kernel
theorem zd_M_run_184 : decode zc_M_run 184 = .ok (.invokevirtual 88, 3) := by decide +kernel
theorem zd_M_run_187 : decode zc_M_run 187 = .ok (.iload 7, 2) := by decide +kernel
theorem zd_M_run_189 : decode zc_M_run 189 = .ok (.invokevirtual 92, 3) := by decide +kernel
theorem zd_M_run_192 : decode zc_M_run 192 = .ok (.aload_n 0, 1) := by decide +kernel
theorem zd_M_run_193 : decode zc_M_run 193 = .ok (.invokevirtual 76, 3) := by decide +kernel
theorem zd_M_run_196 : decode zc_M_run 196 = .ok (.istore 7, 2) := by decide +kernel
theorem zd_M_run_198 : decode zc_M_run 198 = .ok (.aload_n 0, 1) := by decide +kernel
theorem zd_M_run_199 : decode zc_M_run 199 = .ok (.iload 7, 2) := by decide +kernel
theorem zd_M_run_201 : decode zc_M_run 201 = .ok (.iconst (-1), 1) := by decide +kernel
theorem zd_M_run_202 : decode zc_M_run 202 = .ok (.if_icmp .eq 7, 3) := by decide +kernel
theorem zd_M_run_205 : decode zc_M_run 205 = .ok (.iconst 1, 1) := by decide +kernel
theorem zd_M_run_206 : decode zc_M_run 206 = .ok (.goto 4, 3) := by decide +kernel
theorem zd_M_run_209 : decode zc_M_run 209 = .ok (.iconst 0, 1) := by decide +kernel
theorem zd_M_run_210 : decode zc_M_run 210 = .ok (.invokevirtual 80, 3) := by decide +kernel
theorem zd_M_run_213 : decode zc_M_run 213 = .ok (.istore 8, 2) := by decide +kernel
theorem zd_M_run_215 : decode zc_M_run 215 = .ok (.goto (-79), 3) := by decide +kernel
theorem zd_M_run_218 : decode zc_M_run 218 = .ok (.aload_n 0, 1) := by decide +kernel
theorem zd_M_run_219 : decode zc_M_run 219 = .ok (.iload 8, 2) := by decide +kernel
theorem zd_M_run_221 : decode zc_M_run 221 = .ok (.ifCond .ne 7, 3) := by decide +kernel
theorem zd_M_run_224 : decode zc_M_run 224 = .ok (.iconst 1, 1) := by decide +kernel
theorem zd_M_run_225 : decode zc_M_run 225 = .ok (.goto 4, 3) := by decide +kernel
theorem zd_M_run_228 : decode zc_M_run 228 = .ok (.iconst 0, 1) := by decide +kernel
theorem zd_M_run_229 : decode zc_M_run 229 = .ok (.putfield 57, 3) := by decide +kernel
theorem zd_M_run_232 : decode zc_M_run 232 = .ok (.aload_n 0, 1) := by decide +kernel
theorem zd_M_run_233 : decode zc_M_run 233 = .ok (.getfield 57, 3) := by decide +kernel
theorem zd_M_run_236 : decode zc_M_run 236 = .ok (.ifCond .eq 10, 3) := by decide +kernel
theorem zd_M_run_239 : decode zc_M_run 239 = .ok (.aload_n 0, 1) := by decide +kernel
theorem zd_M_run_240 : decode zc_M_run 240 = .ok (.invokevirtual 96, 3) := by decide +kernel
theorem zd_M_run_243 : decode zc_M_run 243 = .ok (.goto 5, 3) := by decide +kernel
theorem zd_M_run_246 : decode zc_M_run 246 = .ok (.bipush (-2), 2) := by decide +kernel
theorem zd_M_run_248 : decode zc_M_run 248 = .ok (.ireturn, 1) := by decide +kernel
theorem zd_M_counts_0 : decode zc_M_counts 0 = .ok (.aload_n 0, 1) := by decide +kernel
theorem zd_M_counts_1 : decode zc_M_counts 1 = .ok (.invokevirtual 96, 3) := by decide +kernel
theorem zd_M_counts_4 : decode zc_M_counts 4 = .ok (.istore_n 2, 1) := by decide +kernel
theorem zd_M_counts_5 : decode zc_M_counts 5 = .ok (.iload_n 2, 1) := by decide +kernel
theorem zd_M_counts_6 : decode zc_M_counts 6 = .ok (.iconst (-1), 1) := by decide +kernel
theorem zd_M_counts_7 : decode zc_M_counts 7 = .ok (.if_icmp .eq 8, 3) := by decide +kernel
theorem zd_M_counts_10 : decode zc_M_counts 10 = .ok (.iload_n 1, 1) := by decide +kernel
theorem zd_M_counts_11 : decode zc_M_counts 11 = .ok (.iload_n 2, 1) := by decide +kernel
theorem zd_M_counts_12 : decode zc_M_counts 12 = .ok (.if_icmp .gt 7, 3) := by decide +kernel
theorem zd_M_counts_15 : decode zc_M_counts 15 = .ok (.iconst 1, 1) := by decide +kernel
theorem zd_M_counts_16 : decode zc_M_counts 16 = .ok (.goto 4, 3) := by decide +kernel
theorem zd_M_counts_19 : decode zc_M_counts 19 = .ok (.iconst 0, 1) := by decide +kernel
theorem zd_M_counts_20 : decode zc_M_counts 20 = .ok (.ireturn, 1) := by decide +kernel
theorem zd_M_answer_0 : decode zc_M_answer 0 = .ok (.aload_n 0, 1) := by decide +kernel
theorem zd_M_answer_1 : decode zc_M_answer 1 = .ok (.aload_n 0, 1) := by decide +kernel
theorem zd_M_answer_2 : decode zc_M_answer 2 = .ok (.getfield 57, 3) := by decide +kernel
theorem zd_M_answer_5 : decode zc_M_answer 5 = .ok (.ifCond .ne 7, 3) := by decide +kernel
theorem zd_M_answer_8 : decode zc_M_answer 8 = .ok (.iconst 1, 1) := by decide +kernel
theorem zd_M_answer_9 : decode zc_M_answer 9 = .ok (.goto 4, 3) := by decide +kernel
theorem zd_M_answer_12 : decode zc_M_answer 12 = .ok (.iconst 0, 1) := by decide +kernel
theorem zd_M_answer_13 : decode zc_M_answer 13 = .ok (.iconst 0, 1) := by decide +kernel
theorem zd_M_answer_14 : decode zc_M_answer 14 = .ok (.invokevirtual 53, 3) := by decide +kernel
theorem zd_M_answer_17 : decode zc_M_answer 17 = .ok (.ifCond .eq 5, 3) := by decide +kernel
theorem zd_M_answer_20 : decode zc_M_answer 20 = .ok (.lconst 0, 1) := by decide +kernel
theorem zd_M_answer_21 : decode zc_M_answer 21 = .ok (.lreturn, 1) := by decide +kernel
theorem zd_M_answer_22 : decode zc_M_answer 22 = .ok (.aload_n 0, 1) := by decide +kernel
theorem zd_M_answer_23 : decode zc_M_answer 23 = .ok (.invokevirtual 96, 3) := by decide +kernel
theorem zd_M_answer_26 : decode zc_M_answer 26 = .ok (.istore_n 1, 1) := by decide +kernel
theorem zd_M_answer_27 : decode zc_M_answer 27 = .ok (.iload_n 1, 1) := by decide +kernel
theorem zd_M_answer_28 : decode zc_M_answer 28 = .ok (.iconst (-1), 1) := by decide +kernel
theorem zd_M_answer_29 : decode zc_M_answer 29 = .ok (.if_icmp .eq 10, 3) := by decide +kernel
theorem zd_M_answer_32 : decode zc_M_answer 32 = .ok (.aload_n 0, 1) := by decide +kernel
theorem zd_M_answer_33 : decode zc_M_answer 33 = .ok (.getfield 16, 3) := by decide +kernel
theorem zd_M_answer_36 : decode zc_M_answer 36 = .ok (.iload_n 1, 1) := by decide +kernel
theorem zd_M_answer_37 : decode zc_M_answer 37 = .ok (.laload, 1) := by decide +kernel
theorem zd_M_answer_38 : decode zc_M_answer 38 = .ok (.lreturn, 1) := by decide +kernel
theorem zd_M_answer_39 : decode zc_M_answer 39 = .ok (.lconst 0, 1) := by decide +kernel
theorem zd_M_answer_40 : decode zc_M_answer 40 = .ok (.lstore_n 2, 1) := by decide +kernel
theorem zd_M_answer_41 : decode zc_M_answer 41 = .ok (.iconst 0, 1) := by decide +kernel
theorem zd_M_answer_42 : decode zc_M_answer 42 = .ok (.istore 4, 2) := by decide +kernel
theorem zd_M_answer_44 : decode zc_M_answer 44 = .ok (.iload 4, 2) := by decide +kernel
theorem zd_M_answer_46 : decode zc_M_answer 46 = .ok (.aload_n 0, 1) := by decide +kernel
theorem zd_M_answer_47 : decode zc_M_answer 47 = .ok (.getfield 42, 3) := by decide +kernel
theorem zd_M_answer_50 : decode zc_M_answer 50 = .ok (.if_icmp .ge 19, 3) := by decide +kernel
theorem zd_M_answer_53 : decode zc_M_answer 53 = .ok (.lload_n 2, 1) := by decide +kernel
theorem zd_M_answer_54 : decode zc_M_answer 54 = .ok (.aload_n 0, 1) := by decide +kernel
theorem zd_M_answer_55 : decode zc_M_answer 55 = .ok (.getfield 16, 3) := by decide +kernel
theorem zd_M_answer_58 : decode zc_M_answer 58 = .ok (.iload 4, 2) := by decide +kernel
theorem zd_M_answer_60 : decode zc_M_answer 60 = .ok (.laload, 1) := by decide +kernel
theorem zd_M_answer_61 : decode zc_M_answer 61 = .ok (.ladd, 1) := by decide +kernel
theorem zd_M_answer_62 : decode zc_M_answer 62 = .ok (.lstore_n 2, 1) := by decide +kernel
theorem zd_M_answer_63 : decode zc_M_answer 63 = .ok (.iinc 4 1, 3) := by decide +kernel
theorem zd_M_answer_66 : decode zc_M_answer 66 = .ok (.goto (-22), 3) := by decide +kernel
theorem zd_M_answer_69 : decode zc_M_answer 69 = .ok (.lload_n 2, 1) := by decide +kernel
theorem zd_M_answer_70 : decode zc_M_answer 70 = .ok (.lreturn, 1) := by decide +kernel
theorem zd_M_ticks_0 : decode zc_M_ticks 0 = .ok (.aload_n 0, 1) := by decide +kernel
theorem zd_M_ticks_1 : decode zc_M_ticks 1 = .ok (.aload_n 0, 1) := by decide +kernel
theorem zd_M_ticks_2 : decode zc_M_ticks 2 = .ok (.getfield 57, 3) := by decide +kernel
theorem zd_M_ticks_5 : decode zc_M_ticks 5 = .ok (.ifCond .ne 7, 3) := by decide +kernel
theorem zd_M_ticks_8 : decode zc_M_ticks 8 = .ok (.iconst 1, 1) := by decide +kernel
theorem zd_M_ticks_9 : decode zc_M_ticks 9 = .ok (.goto 4, 3) := by decide +kernel
theorem zd_M_ticks_12 : decode zc_M_ticks 12 = .ok (.iconst 0, 1) := by decide +kernel
theorem zd_M_ticks_13 : decode zc_M_ticks 13 = .ok (.iconst 0, 1) := by decide +kernel
theorem zd_M_ticks_14 : decode zc_M_ticks 14 = .ok (.invokevirtual 53, 3) := by decide +kernel
theorem zd_M_ticks_17 : decode zc_M_ticks 17 = .ok (.ifCond .eq 5, 3) := by decide +kernel
theorem zd_M_ticks_20 : decode zc_M_ticks 20 = .ok (.iconst 0, 1) := by decide +kernel
theorem zd_M_ticks_21 : decode zc_M_ticks 21 = .ok (.ireturn, 1) := by decide +kernel
theorem zd_M_ticks_22 : decode zc_M_ticks 22 = .ok (.iconst 0, 1) := by decide +kernel
theorem zd_M_ticks_23 : decode zc_M_ticks 23 = .ok (.istore_n 2, 1) := by decide +kernel
theorem zd_M_ticks_24 : decode zc_M_ticks 24 = .ok (.iconst 0, 1) := by decide +kernel
theorem zd_M_ticks_25 : decode zc_M_ticks 25 = .ok (.istore_n 3, 1) := by decide +kernel
theorem zd_M_ticks_26 : decode zc_M_ticks 26 = .ok (.iload_n 3, 1) := by decide +kernel
theorem zd_M_ticks_27 : decode zc_M_ticks 27 = .ok (.aload_n 0, 1) := by decide +kernel
theorem zd_M_ticks_28 : decode zc_M_ticks 28 = .ok (.getfield 42, 3) := by decide +kernel
theorem zd_M_ticks_31 : decode zc_M_ticks 31 = .ok (.if_icmp .ge 30, 3) := by decide +kernel
theorem zd_M_ticks_34 : decode zc_M_ticks 34 = .ok (.iload_n 2, 1) := by decide +kernel
theorem zd_M_ticks_35 : decode zc_M_ticks 35 = .ok (.aload_n 0, 1) := by decide +kernel
theorem zd_M_ticks_36 : decode zc_M_ticks 36 = .ok (.iload_n 3, 1) := by decide +kernel
theorem zd_M_ticks_37 : decode zc_M_ticks 37 = .ok (.invokevirtual 99, 3) := by decide +kernel
theorem zd_M_ticks_40 : decode zc_M_ticks 40 = .ok (.ifCond .eq 12, 3) := by decide +kernel
theorem zd_M_ticks_43 : decode zc_M_ticks 43 = .ok (.aload_n 0, 1) := by decide +kernel
theorem zd_M_ticks_44 : decode zc_M_ticks 44 = .ok (.getfield 24, 3) := by decide +kernel
theorem zd_M_ticks_47 : decode zc_M_ticks 47 = .ok (.iload_n 3, 1) := by decide +kernel
theorem zd_M_ticks_48 : decode zc_M_ticks 48 = .ok (.iaload, 1) := by decide +kernel
theorem zd_M_ticks_49 : decode zc_M_ticks 49 = .ok (.goto 4, 3) := by decide +kernel
theorem zd_M_ticks_52 : decode zc_M_ticks 52 = .ok (.iconst 0, 1) := by decide +kernel
theorem zd_M_ticks_53 : decode zc_M_ticks 53 = .ok (.iadd, 1) := by decide +kernel
theorem zd_M_ticks_54 : decode zc_M_ticks 54 = .ok (.istore_n 2, 1) := by decide +kernel
theorem zd_M_ticks_55 : decode zc_M_ticks 55 = .ok (.iinc 3 1, 3) := by decide +kernel
theorem zd_M_ticks_58 : decode zc_M_ticks 58 = .ok (.goto (-32), 3) := by decide +kernel
theorem zd_M_ticks_61 : decode zc_M_ticks 61 = .ok (.iload_n 1, 1) := by decide +kernel
theorem zd_M_ticks_62 : decode zc_M_ticks 62 = .ok (.ifCond .ne 7, 3) := by decide +kernel
theorem zd_M_ticks_65 : decode zc_M_ticks 65 = .ok (.iload_n 2, 1) := by decide +kernel
theorem zd_M_ticks_66 : decode zc_M_ticks 66 = .ok (.goto 30, 3) := by decide +kernel
theorem zd_M_ticks_69 : decode zc_M_ticks 69 = .ok (.iload_n 1, 1) := by decide +kernel
theorem zd_M_ticks_70 : decode zc_M_ticks 70 = .ok (.iconst 1, 1) := by decide +kernel
theorem zd_M_ticks_71 : decode zc_M_ticks 71 = .ok (.if_icmp .ne 12, 3) := by decide +kernel
theorem zd_M_ticks_74 : decode zc_M_ticks 74 = .ok (.aload_n 0, 1) := by decide +kernel
theorem zd_M_ticks_75 : decode zc_M_ticks 75 = .ok (.getfield 70, 3) := by decide +kernel
theorem zd_M_ticks_78 : decode zc_M_ticks 78 = .ok (.iload_n 2, 1) := by decide +kernel
theorem zd_M_ticks_79 : decode zc_M_ticks 79 = .ok (.isub, 1) := by decide +kernel
theorem zd_M_ticks_80 : decode zc_M_ticks 80 = .ok (.goto 16, 3) := by decide +kernel
theorem zd_M_ticks_83 : decode zc_M_ticks 83 = .ok (.iload_n 1, 1) := by decide +kernel
theorem zd_M_ticks_84 : decode zc_M_ticks 84 = .ok (.iconst 2, 1) := by decide +kernel
theorem zd_M_ticks_85 : decode zc_M_ticks 85 = .ok (.if_icmp .ne 10, 3) := by decide +kernel
theorem zd_M_ticks_88 : decode zc_M_ticks 88 = .ok (.aload_n 0, 1) := by decide +kernel
theorem zd_M_ticks_89 : decode zc_M_ticks 89 = .ok (.getfield 70, 3) := by decide +kernel
theorem zd_M_ticks_92 : decode zc_M_ticks 92 = .ok (.goto 4, 3) := by decide +kernel
theorem zd_M_ticks_95 : decode zc_M_ticks 95 = .ok (.iconst (-1), 1) := by decide +kernel
theorem zd_M_ticks_96 : decode zc_M_ticks 96 = .ok (.ireturn, 1) := by decide +kernel
theorem zd_M_worked_0 : decode zc_M_worked 0 = .ok (.aload_n 0, 1) := by decide +kernel
theorem zd_M_worked_1 : decode zc_M_worked 1 = .ok (.aload_n 0, 1) := by decide +kernel
theorem zd_M_worked_2 : decode zc_M_worked 2 = .ok (.getfield 57, 3) := by decide +kernel
theorem zd_M_worked_5 : decode zc_M_worked 5 = .ok (.ifCond .ne 7, 3) := by decide +kernel
theorem zd_M_worked_8 : decode zc_M_worked 8 = .ok (.iconst 1, 1) := by decide +kernel
theorem zd_M_worked_9 : decode zc_M_worked 9 = .ok (.goto 4, 3) := by decide +kernel
theorem zd_M_worked_12 : decode zc_M_worked 12 = .ok (.iconst 0, 1) := by decide +kernel
theorem zd_M_worked_13 : decode zc_M_worked 13 = .ok (.iload_n 1, 1) := by decide +kernel
theorem zd_M_worked_14 : decode zc_M_worked 14 = .ok (.ifCond .lt 11, 3) := by decide +kernel
theorem zd_M_worked_17 : decode zc_M_worked 17 = .ok (.iload_n 1, 1) := by decide +kernel
theorem zd_M_worked_18 : decode zc_M_worked 18 = .ok (.aload_n 0, 1) := by decide +kernel
theorem zd_M_worked_19 : decode zc_M_worked 19 = .ok (.getfield 61, 3) := by decide +kernel
theorem zd_M_worked_22 : decode zc_M_worked 22 = .ok (.if_icmp .lt 7, 3) := by decide +kernel
theorem zd_M_worked_25 : decode zc_M_worked 25 = .ok (.iconst 1, 1) := by decide +kernel
theorem zd_M_worked_26 : decode zc_M_worked 26 = .ok (.goto 4, 3) := by decide +kernel
theorem zd_M_worked_29 : decode zc_M_worked 29 = .ok (.iconst 0, 1) := by decide +kernel
theorem zd_M_worked_30 : decode zc_M_worked 30 = .ok (.invokevirtual 53, 3) := by decide +kernel
theorem zd_M_worked_33 : decode zc_M_worked 33 = .ok (.ifCond .eq 5, 3) := by decide +kernel
theorem zd_M_worked_36 : decode zc_M_worked 36 = .ok (.iconst 0, 1) := by decide +kernel
theorem zd_M_worked_37 : decode zc_M_worked 37 = .ok (.ireturn, 1) := by decide +kernel
theorem zd_M_worked_38 : decode zc_M_worked 38 = .ok (.aload_n 0, 1) := by decide +kernel
theorem zd_M_worked_39 : decode zc_M_worked 39 = .ok (.getfield 36, 3) := by decide +kernel
theorem zd_M_worked_42 : decode zc_M_worked 42 = .ok (.iload_n 1, 1) := by decide +kernel
theorem zd_M_worked_43 : decode zc_M_worked 43 = .ok (.iaload, 1) := by decide +kernel
theorem zd_M_worked_44 : decode zc_M_worked 44 = .ok (.ireturn, 1) := by decide +kernel
theorem zd_M_done_0 : decode zc_M_done 0 = .ok (.aload_n 0, 1) := by decide +kernel
theorem zd_M_done_1 : decode zc_M_done 1 = .ok (.aload_n 0, 1) := by decide +kernel
theorem zd_M_done_2 : decode zc_M_done 2 = .ok (.getfield 57, 3) := by decide +kernel
theorem zd_M_done_5 : decode zc_M_done 5 = .ok (.ifCond .ne 7, 3) := by decide +kernel
theorem zd_M_done_8 : decode zc_M_done 8 = .ok (.iconst 1, 1) := by decide +kernel
theorem zd_M_done_9 : decode zc_M_done 9 = .ok (.goto 4, 3) := by decide +kernel
theorem zd_M_done_12 : decode zc_M_done 12 = .ok (.iconst 0, 1) := by decide +kernel
theorem zd_M_done_13 : decode zc_M_done 13 = .ok (.iload_n 1, 1) := by decide +kernel
theorem zd_M_done_14 : decode zc_M_done 14 = .ok (.ifCond .lt 11, 3) := by decide +kernel
theorem zd_M_done_17 : decode zc_M_done 17 = .ok (.iload_n 1, 1) := by decide +kernel
theorem zd_M_done_18 : decode zc_M_done 18 = .ok (.aload_n 0, 1) := by decide +kernel
theorem zd_M_done_19 : decode zc_M_done 19 = .ok (.getfield 73, 3) := by decide +kernel
theorem zd_M_done_22 : decode zc_M_done 22 = .ok (.if_icmp .lt 7, 3) := by decide +kernel
theorem zd_M_done_25 : decode zc_M_done 25 = .ok (.iconst 1, 1) := by decide +kernel
theorem zd_M_done_26 : decode zc_M_done 26 = .ok (.goto 4, 3) := by decide +kernel
theorem zd_M_done_29 : decode zc_M_done 29 = .ok (.iconst 0, 1) := by decide +kernel
theorem zd_M_done_30 : decode zc_M_done 30 = .ok (.invokevirtual 53, 3) := by decide +kernel
theorem zd_M_done_33 : decode zc_M_done 33 = .ok (.ifCond .eq 5, 3) := by decide +kernel
theorem zd_M_done_36 : decode zc_M_done 36 = .ok (.iconst 0, 1) := by decide +kernel
theorem zd_M_done_37 : decode zc_M_done 37 = .ok (.ireturn, 1) := by decide +kernel
theorem zd_M_done_38 : decode zc_M_done 38 = .ok (.aload_n 0, 1) := by decide +kernel
theorem zd_M_done_39 : decode zc_M_done 39 = .ok (.getfield 39, 3) := by decide +kernel
theorem zd_M_done_42 : decode zc_M_done 42 = .ok (.iload_n 1, 1) := by decide +kernel
theorem zd_M_done_43 : decode zc_M_done 43 = .ok (.iaload, 1) := by decide +kernel
theorem zd_M_done_44 : decode zc_M_done 44 = .ok (.ireturn, 1) := by decide +kernel
theorem zd_M_by_0 : decode zc_M_by 0 = .ok (.aload_n 0, 1) := by decide +kernel
theorem zd_M_by_1 : decode zc_M_by 1 = .ok (.aload_n 0, 1) := by decide +kernel
theorem zd_M_by_2 : decode zc_M_by 2 = .ok (.getfield 57, 3) := by decide +kernel
theorem zd_M_by_5 : decode zc_M_by 5 = .ok (.ifCond .ne 7, 3) := by decide +kernel
theorem zd_M_by_8 : decode zc_M_by 8 = .ok (.iconst 1, 1) := by decide +kernel
theorem zd_M_by_9 : decode zc_M_by 9 = .ok (.goto 4, 3) := by decide +kernel
theorem zd_M_by_12 : decode zc_M_by 12 = .ok (.iconst 0, 1) := by decide +kernel
theorem zd_M_by_13 : decode zc_M_by 13 = .ok (.aload_n 0, 1) := by decide +kernel
theorem zd_M_by_14 : decode zc_M_by 14 = .ok (.iload_n 1, 1) := by decide +kernel
theorem zd_M_by_15 : decode zc_M_by 15 = .ok (.invokevirtual 49, 3) := by decide +kernel
theorem zd_M_by_18 : decode zc_M_by 18 = .ok (.ifCond .ne 7, 3) := by decide +kernel
theorem zd_M_by_21 : decode zc_M_by 21 = .ok (.iconst 1, 1) := by decide +kernel
theorem zd_M_by_22 : decode zc_M_by 22 = .ok (.goto 4, 3) := by decide +kernel
theorem zd_M_by_25 : decode zc_M_by 25 = .ok (.iconst 0, 1) := by decide +kernel
theorem zd_M_by_26 : decode zc_M_by 26 = .ok (.invokevirtual 53, 3) := by decide +kernel
theorem zd_M_by_29 : decode zc_M_by 29 = .ok (.ifCond .eq 5, 3) := by decide +kernel
theorem zd_M_by_32 : decode zc_M_by 32 = .ok (.iconst 0, 1) := by decide +kernel
theorem zd_M_by_33 : decode zc_M_by 33 = .ok (.ireturn, 1) := by decide +kernel
theorem zd_M_by_34 : decode zc_M_by 34 = .ok (.aload_n 0, 1) := by decide +kernel
theorem zd_M_by_35 : decode zc_M_by 35 = .ok (.iload_n 1, 1) := by decide +kernel
theorem zd_M_by_36 : decode zc_M_by 36 = .ok (.invokevirtual 99, 3) := by decide +kernel
theorem zd_M_by_39 : decode zc_M_by 39 = .ok (.ifCond .eq 12, 3) := by decide +kernel
theorem zd_M_by_42 : decode zc_M_by 42 = .ok (.aload_n 0, 1) := by decide +kernel
theorem zd_M_by_43 : decode zc_M_by 43 = .ok (.getfield 30, 3) := by decide +kernel
theorem zd_M_by_46 : decode zc_M_by 46 = .ok (.iload_n 1, 1) := by decide +kernel
theorem zd_M_by_47 : decode zc_M_by 47 = .ok (.iaload, 1) := by decide +kernel
theorem zd_M_by_48 : decode zc_M_by 48 = .ok (.goto 4, 3) := by decide +kernel
theorem zd_M_by_51 : decode zc_M_by 51 = .ok (.iconst (-1), 1) := by decide +kernel
theorem zd_M_by_52 : decode zc_M_by 52 = .ok (.ireturn, 1) := by decide +kernel
theorem zd_M_failed_0 : decode zc_M_failed 0 = .ok (.aload_n 0, 1) := by decide +kernel
theorem zd_M_failed_1 : decode zc_M_failed 1 = .ok (.aload_n 0, 1) := by decide +kernel
theorem zd_M_failed_2 : decode zc_M_failed 2 = .ok (.getfield 57, 3) := by decide +kernel
theorem zd_M_failed_5 : decode zc_M_failed 5 = .ok (.ifCond .ne 7, 3) := by decide +kernel
theorem zd_M_failed_8 : decode zc_M_failed 8 = .ok (.iconst 1, 1) := by decide +kernel
theorem zd_M_failed_9 : decode zc_M_failed 9 = .ok (.goto 4, 3) := by decide +kernel
theorem zd_M_failed_12 : decode zc_M_failed 12 = .ok (.iconst 0, 1) := by decide +kernel
theorem zd_M_failed_13 : decode zc_M_failed 13 = .ok (.aload_n 0, 1) := by decide +kernel
theorem zd_M_failed_14 : decode zc_M_failed 14 = .ok (.iload_n 1, 1) := by decide +kernel
theorem zd_M_failed_15 : decode zc_M_failed 15 = .ok (.invokevirtual 49, 3) := by decide +kernel
theorem zd_M_failed_18 : decode zc_M_failed 18 = .ok (.ifCond .ne 7, 3) := by decide +kernel
theorem zd_M_failed_21 : decode zc_M_failed 21 = .ok (.iconst 1, 1) := by decide +kernel
theorem zd_M_failed_22 : decode zc_M_failed 22 = .ok (.goto 4, 3) := by decide +kernel
theorem zd_M_failed_25 : decode zc_M_failed 25 = .ok (.iconst 0, 1) := by decide +kernel
theorem zd_M_failed_26 : decode zc_M_failed 26 = .ok (.invokevirtual 53, 3) := by decide +kernel
theorem zd_M_failed_29 : decode zc_M_failed 29 = .ok (.ifCond .eq 5, 3) := by decide +kernel
theorem zd_M_failed_32 : decode zc_M_failed 32 = .ok (.iconst 0, 1) := by decide +kernel
theorem zd_M_failed_33 : decode zc_M_failed 33 = .ok (.ireturn, 1) := by decide +kernel
theorem zd_M_failed_34 : decode zc_M_failed 34 = .ok (.aload_n 0, 1) := by decide +kernel
theorem zd_M_failed_35 : decode zc_M_failed 35 = .ok (.getfield 24, 3) := by decide +kernel
theorem zd_M_failed_38 : decode zc_M_failed 38 = .ok (.iload_n 1, 1) := by decide +kernel
theorem zd_M_failed_39 : decode zc_M_failed 39 = .ok (.iaload, 1) := by decide +kernel
theorem zd_M_failed_40 : decode zc_M_failed 40 = .ok (.aload_n 0, 1) := by decide +kernel
theorem zd_M_failed_41 : decode zc_M_failed 41 = .ok (.getfield 7, 3) := by decide +kernel
theorem zd_M_failed_44 : decode zc_M_failed 44 = .ok (.iload_n 1, 1) := by decide +kernel
theorem zd_M_failed_45 : decode zc_M_failed 45 = .ok (.iaload, 1) := by decide +kernel
theorem zd_M_failed_46 : decode zc_M_failed 46 = .ok (.idiv, 1) := by decide +kernel
theorem zd_M_failed_47 : decode zc_M_failed 47 = .ok (.istore_n 2, 1) := by decide +kernel
theorem zd_M_failed_48 : decode zc_M_failed 48 = .ok (.aload_n 0, 1) := by decide +kernel
theorem zd_M_failed_49 : decode zc_M_failed 49 = .ok (.iload_n 1, 1) := by decide +kernel
theorem zd_M_failed_50 : decode zc_M_failed 50 = .ok (.invokevirtual 99, 3) := by decide +kernel
theorem zd_M_failed_53 : decode zc_M_failed 53 = .ok (.ifCond .ne 7, 3) := by decide +kernel
theorem zd_M_failed_56 : decode zc_M_failed 56 = .ok (.iconst 0, 1) := by decide +kernel
theorem zd_M_failed_57 : decode zc_M_failed 57 = .ok (.goto 23, 3) := by decide +kernel
theorem zd_M_failed_60 : decode zc_M_failed 60 = .ok (.iload_n 2, 1) := by decide +kernel
theorem zd_M_failed_61 : decode zc_M_failed 61 = .ok (.aload_n 0, 1) := by decide +kernel
theorem zd_M_failed_62 : decode zc_M_failed 62 = .ok (.getfield 13, 3) := by decide +kernel
theorem zd_M_failed_65 : decode zc_M_failed 65 = .ok (.iload_n 1, 1) := by decide +kernel
theorem zd_M_failed_66 : decode zc_M_failed 66 = .ok (.iaload, 1) := by decide +kernel
theorem zd_M_failed_67 : decode zc_M_failed 67 = .ok (.if_icmp .ge 7, 3) := by decide +kernel
theorem zd_M_failed_70 : decode zc_M_failed 70 = .ok (.iload_n 2, 1) := by decide +kernel
theorem zd_M_failed_71 : decode zc_M_failed 71 = .ok (.goto 9, 3) := by decide +kernel
theorem zd_M_failed_74 : decode zc_M_failed 74 = .ok (.aload_n 0, 1) := by decide +kernel
theorem zd_M_failed_75 : decode zc_M_failed 75 = .ok (.getfield 13, 3) := by decide +kernel
theorem zd_M_failed_78 : decode zc_M_failed 78 = .ok (.iload_n 1, 1) := by decide +kernel
theorem zd_M_failed_79 : decode zc_M_failed 79 = .ok (.iaload, 1) := by decide +kernel
theorem zd_M_failed_80 : decode zc_M_failed 80 = .ok (.ireturn, 1) := by decide +kernel
theorem zd_M_at_0 : decode zc_M_at 0 = .ok (.aload_n 0, 1) := by decide +kernel
theorem zd_M_at_1 : decode zc_M_at 1 = .ok (.aload_n 0, 1) := by decide +kernel
theorem zd_M_at_2 : decode zc_M_at 2 = .ok (.getfield 57, 3) := by decide +kernel
theorem zd_M_at_5 : decode zc_M_at 5 = .ok (.ifCond .ne 7, 3) := by decide +kernel
theorem zd_M_at_8 : decode zc_M_at 8 = .ok (.iconst 1, 1) := by decide +kernel
theorem zd_M_at_9 : decode zc_M_at 9 = .ok (.goto 4, 3) := by decide +kernel
theorem zd_M_at_12 : decode zc_M_at 12 = .ok (.iconst 0, 1) := by decide +kernel
theorem zd_M_at_13 : decode zc_M_at 13 = .ok (.aload_n 0, 1) := by decide +kernel
theorem zd_M_at_14 : decode zc_M_at 14 = .ok (.iload_n 1, 1) := by decide +kernel
theorem zd_M_at_15 : decode zc_M_at 15 = .ok (.invokevirtual 49, 3) := by decide +kernel
theorem zd_M_at_18 : decode zc_M_at 18 = .ok (.ifCond .ne 7, 3) := by decide +kernel
theorem zd_M_at_21 : decode zc_M_at 21 = .ok (.iconst 1, 1) := by decide +kernel
theorem zd_M_at_22 : decode zc_M_at 22 = .ok (.goto 4, 3) := by decide +kernel
theorem zd_M_at_25 : decode zc_M_at 25 = .ok (.iconst 0, 1) := by decide +kernel
theorem zd_M_at_26 : decode zc_M_at 26 = .ok (.invokevirtual 53, 3) := by decide +kernel
theorem zd_M_at_29 : decode zc_M_at 29 = .ok (.ifCond .eq 5, 3) := by decide +kernel
theorem zd_M_at_32 : decode zc_M_at 32 = .ok (.iconst 0, 1) := by decide +kernel
theorem zd_M_at_33 : decode zc_M_at 33 = .ok (.ireturn, 1) := by decide +kernel
theorem zd_M_at_34 : decode zc_M_at 34 = .ok (.aload_n 0, 1) := by decide +kernel
theorem zd_M_at_35 : decode zc_M_at 35 = .ok (.iload_n 1, 1) := by decide +kernel
theorem zd_M_at_36 : decode zc_M_at 36 = .ok (.invokevirtual 99, 3) := by decide +kernel
theorem zd_M_at_39 : decode zc_M_at 39 = .ok (.ifCond .eq 12, 3) := by decide +kernel
theorem zd_M_at_42 : decode zc_M_at 42 = .ok (.aload_n 0, 1) := by decide +kernel
theorem zd_M_at_43 : decode zc_M_at 43 = .ok (.getfield 27, 3) := by decide +kernel
theorem zd_M_at_46 : decode zc_M_at 46 = .ok (.iload_n 1, 1) := by decide +kernel
theorem zd_M_at_47 : decode zc_M_at 47 = .ok (.iaload, 1) := by decide +kernel
theorem zd_M_at_48 : decode zc_M_at 48 = .ok (.goto 4, 3) := by decide +kernel
theorem zd_M_at_51 : decode zc_M_at 51 = .ok (.iconst 0, 1) := by decide +kernel
theorem zd_M_at_52 : decode zc_M_at 52 = .ok (.ireturn, 1) := by decide +kernel
theorem zd_M_count_0 : decode zc_M_count 0 = .ok (.aload_n 0, 1) := by decide +kernel
theorem zd_M_count_1 : decode zc_M_count 1 = .ok (.iconst 0, 1) := by decide +kernel
theorem zd_M_count_2 : decode zc_M_count 2 = .ok (.putfield 46, 3) := by decide +kernel
theorem zd_M_count_5 : decode zc_M_count 5 = .ok (.aload_n 0, 1) := by decide +kernel
theorem zd_M_count_6 : decode zc_M_count 6 = .ok (.getfield 42, 3) := by decide +kernel
theorem zd_M_count_9 : decode zc_M_count 9 = .ok (.ireturn, 1) := by decide +kernel
