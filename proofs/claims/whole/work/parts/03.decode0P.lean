theorem zd_P_init_0 : decode zc_P_init 0 = .ok (.aload_n 0, 1) := by decide +kernel
theorem zd_P_init_1 : decode zc_P_init 1 = .ok (.invokespecial 3, 3) := by decide +kernel
theorem zd_P_init_4 : decode zc_P_init 4 = .ok (.aload_n 0, 1) := by decide +kernel
theorem zd_P_init_5 : decode zc_P_init 5 = .ok (.iconst 1, 1) := by decide +kernel
theorem zd_P_init_6 : decode zc_P_init 6 = .ok (.bipush 16, 2) := by decide +kernel
theorem zd_P_init_8 : decode zc_P_init 8 = .ok (.iload_n 1, 1) := by decide +kernel
theorem zd_P_init_9 : decode zc_P_init 9 = .ok (.invokestatic 9, 3) := by decide +kernel
theorem zd_P_init_12 : decode zc_P_init 12 = .ok (.invokestatic 15, 3) := by decide +kernel
theorem zd_P_init_15 : decode zc_P_init 15 = .ok (.putfield 18, 3) := by decide +kernel
theorem zd_P_init_18 : decode zc_P_init 18 = .ok (.aload_n 0, 1) := by decide +kernel
theorem zd_P_init_19 : decode zc_P_init 19 = .ok (.bipush 16, 2) := by decide +kernel
theorem zd_P_init_21 : decode zc_P_init 21 = .ok (.newarray .int, 2) := by decide +kernel
theorem zd_P_init_23 : decode zc_P_init 23 = .ok (.putfield 24, 3) := by decide +kernel
theorem zd_P_init_26 : decode zc_P_init 26 = .ok (.aload_n 0, 1) := by decide +kernel
theorem zd_P_init_27 : decode zc_P_init 27 = .ok (.bipush 16, 2) := by decide +kernel
theorem zd_P_init_29 : decode zc_P_init 29 = .ok (.newarray .long, 2) := by decide +kernel
theorem zd_P_init_31 : decode zc_P_init 31 = .ok (.putfield 28, 3) := by decide +kernel
theorem zd_P_init_34 : decode zc_P_init 34 = .ok (.aload_n 0, 1) := by decide +kernel
theorem zd_P_init_35 : decode zc_P_init 35 = .ok (.bipush 16, 2) := by decide +kernel
theorem zd_P_init_37 : decode zc_P_init 37 = .ok (.newarray .boolean, 2) := by decide +kernel
theorem zd_P_init_39 : decode zc_P_init 39 = .ok (.putfield 32, 3) := by decide +kernel
theorem zd_P_init_42 : decode zc_P_init 42 = .ok (.aload_n 0, 1) := by decide +kernel
theorem zd_P_init_43 : decode zc_P_init 43 = .ok (.bipush 16, 2) := by decide +kernel
theorem zd_P_init_45 : decode zc_P_init 45 = .ok (.newarray .int, 2) := by decide +kernel
theorem zd_P_init_47 : decode zc_P_init 47 = .ok (.putfield 36, 3) := by decide +kernel
theorem zd_P_init_50 : decode zc_P_init 50 = .ok (.aload_n 0, 1) := by decide +kernel
theorem zd_P_init_51 : decode zc_P_init 51 = .ok (.getfield 24, 3) := by decide +kernel
theorem zd_P_init_54 : decode zc_P_init 54 = .ok (.iconst 1, 1) := by decide +kernel
theorem zd_P_init_55 : decode zc_P_init 55 = .ok (.invokestatic 39, 3) := by decide +kernel
theorem zd_P_init_58 : decode zc_P_init 58 = .ok (.return_, 1) := by decide +kernel
theorem zd_P_size_0 : decode zc_P_size 0 = .ok (.aload_n 0, 1) := by decide +kernel
theorem zd_P_size_1 : decode zc_P_size 1 = .ok (.getfield 18, 3) := by decide +kernel
theorem zd_P_size_4 : decode zc_P_size 4 = .ok (.ireturn, 1) := by decide +kernel
theorem zd_P_has_0 : decode zc_P_has 0 = .ok (.iload_n 1, 1) := by decide +kernel
theorem zd_P_has_1 : decode zc_P_has 1 = .ok (.ifCond .lt 15, 3) := by decide +kernel
theorem zd_P_has_4 : decode zc_P_has 4 = .ok (.iload_n 1, 1) := by decide +kernel
theorem zd_P_has_5 : decode zc_P_has 5 = .ok (.aload_n 0, 1) := by decide +kernel
theorem zd_P_has_6 : decode zc_P_has 6 = .ok (.getfield 18, 3) := by decide +kernel
theorem zd_P_has_9 : decode zc_P_has 9 = .ok (.if_icmp .ge 7, 3) := by decide +kernel
theorem zd_P_has_12 : decode zc_P_has 12 = .ok (.iconst 1, 1) := by decide +kernel
theorem zd_P_has_13 : decode zc_P_has 13 = .ok (.goto 4, 3) := by decide +kernel
theorem zd_P_has_16 : decode zc_P_has 16 = .ok (.iconst 0, 1) := by decide +kernel
theorem zd_P_has_17 : decode zc_P_has 17 = .ok (.ireturn, 1) := by decide +kernel
theorem zd_P_change_0 : decode zc_P_change 0 = .ok (.aload_n 0, 1) := by decide +kernel
theorem zd_P_change_1 : decode zc_P_change 1 = .ok (.iload_n 1, 1) := by decide +kernel
theorem zd_P_change_2 : decode zc_P_change 2 = .ok (.invokevirtual 45, 3) := by decide +kernel
theorem zd_P_change_5 : decode zc_P_change 5 = .ok (.ifCond .ne 5, 3) := by decide +kernel
theorem zd_P_change_8 : decode zc_P_change 8 = .ok (.iconst 0, 1) := by decide +kernel
theorem zd_P_change_9 : decode zc_P_change 9 = .ok (.ireturn, 1) := by decide +kernel
theorem zd_P_change_10 : decode zc_P_change 10 = .ok (.aload_n 0, 1) := by decide +kernel
theorem zd_P_change_11 : decode zc_P_change 11 = .ok (.getfield 24, 3) := by decide +kernel
theorem zd_P_change_14 : decode zc_P_change 14 = .ok (.iload_n 1, 1) := by decide +kernel
theorem zd_P_change_15 : decode zc_P_change 15 = .ok (.iaload, 1) := by decide +kernel
theorem zd_P_change_16 : decode zc_P_change 16 = .ok (.iload_n 2, 1) := by decide +kernel
theorem zd_P_change_17 : decode zc_P_change 17 = .ok (.if_icmp .ne 25, 3) := by decide +kernel
theorem zd_P_change_20 : decode zc_P_change 20 = .ok (.aload_n 0, 1) := by decide +kernel
theorem zd_P_change_21 : decode zc_P_change 21 = .ok (.getfield 28, 3) := by decide +kernel
theorem zd_P_change_24 : decode zc_P_change 24 = .ok (.iload_n 1, 1) := by decide +kernel
theorem zd_P_change_25 : decode zc_P_change 25 = .ok (.laload, 1) := by decide +kernel
theorem zd_P_change_26 : decode zc_P_change 26 = .ok (.lload_n 3, 1) := by decide +kernel
theorem zd_P_change_27 : decode zc_P_change 27 = .ok (.lcmp, 1) := by decide +kernel
theorem zd_P_change_28 : decode zc_P_change 28 = .ok (.ifCond .ne 14, 3) := by decide +kernel
theorem zd_P_change_31 : decode zc_P_change 31 = .ok (.aload_n 0, 1) := by decide +kernel
theorem zd_P_change_32 : decode zc_P_change 32 = .ok (.getfield 32, 3) := by decide +kernel
theorem zd_P_change_35 : decode zc_P_change 35 = .ok (.iload_n 1, 1) := by decide +kernel
theorem zd_P_change_36 : decode zc_P_change 36 = .ok (.baload, 1) := by decide +kernel
theorem zd_P_change_37 : decode zc_P_change 37 = .ok (.iload 5, 2) := by decide +kernel
theorem zd_P_change_39 : decode zc_P_change 39 = .ok (.if_icmp .eq 7, 3) := by decide +kernel
theorem zd_P_change_42 : decode zc_P_change 42 = .ok (.iconst 1, 1) := by decide +kernel
theorem zd_P_change_43 : decode zc_P_change 43 = .ok (.goto 4, 3) := by decide +kernel
theorem zd_P_change_46 : decode zc_P_change 46 = .ok (.iconst 0, 1) := by decide +kernel
theorem zd_P_change_47 : decode zc_P_change 47 = .ok (.istore 6, 2) := by decide +kernel
theorem zd_P_change_49 : decode zc_P_change 49 = .ok (.aload_n 0, 1) := by decide +kernel
theorem zd_P_change_50 : decode zc_P_change 50 = .ok (.getfield 24, 3) := by decide +kernel
theorem zd_P_change_53 : decode zc_P_change 53 = .ok (.iload_n 1, 1) := by decide +kernel
theorem zd_P_change_54 : decode zc_P_change 54 = .ok (.iload_n 2, 1) := by decide +kernel
theorem zd_P_change_55 : decode zc_P_change 55 = .ok (.iastore, 1) := by decide +kernel
theorem zd_P_change_56 : decode zc_P_change 56 = .ok (.aload_n 0, 1) := by decide +kernel
theorem zd_P_change_57 : decode zc_P_change 57 = .ok (.getfield 28, 3) := by decide +kernel
theorem zd_P_change_60 : decode zc_P_change 60 = .ok (.iload_n 1, 1) := by decide +kernel
theorem zd_P_change_61 : decode zc_P_change 61 = .ok (.lload_n 3, 1) := by decide +kernel
theorem zd_P_change_62 : decode zc_P_change 62 = .ok (.lastore, 1) := by decide +kernel
theorem zd_P_change_63 : decode zc_P_change 63 = .ok (.aload_n 0, 1) := by decide +kernel
theorem zd_P_change_64 : decode zc_P_change 64 = .ok (.getfield 32, 3) := by decide +kernel
theorem zd_P_change_67 : decode zc_P_change 67 = .ok (.iload_n 1, 1) := by decide +kernel
theorem zd_P_change_68 : decode zc_P_change 68 = .ok (.iload 5, 2) := by decide +kernel
theorem zd_P_change_70 : decode zc_P_change 70 = .ok (.bastore, 1) := by decide +kernel
theorem zd_P_change_71 : decode zc_P_change 71 = .ok (.iload 6, 2) := by decide +kernel
theorem zd_P_change_73 : decode zc_P_change 73 = .ok (.ireturn, 1) := by decide +kernel
theorem zd_P_changeFaults_0 : decode zc_P_changeFaults 0 = .ok (.aload_n 0, 1) := by decide +kernel
theorem zd_P_changeFaults_1 : decode zc_P_changeFaults 1 = .ok (.iload_n 1, 1) := by decide +kernel
theorem zd_P_changeFaults_2 : decode zc_P_changeFaults 2 = .ok (.invokevirtual 45, 3) := by decide +kernel
theorem zd_P_changeFaults_5 : decode zc_P_changeFaults 5 = .ok (.ifCond .ne 5, 3) := by decide +kernel
theorem zd_P_changeFaults_8 : decode zc_P_changeFaults 8 = .ok (.iconst 0, 1) := by decide +kernel
theorem zd_P_changeFaults_9 : decode zc_P_changeFaults 9 = .ok (.ireturn, 1) := by decide +kernel
theorem zd_P_changeFaults_10 : decode zc_P_changeFaults 10 = .ok (.aload_n 0, 1) := by decide +kernel
theorem zd_P_changeFaults_11 : decode zc_P_changeFaults 11 = .ok (.getfield 36, 3) := by decide +kernel
theorem zd_P_changeFaults_14 : decode zc_P_changeFaults 14 = .ok (.iload_n 1, 1) := by decide +kernel
theorem zd_P_changeFaults_15 : decode zc_P_changeFaults 15 = .ok (.iaload, 1) := by decide +kernel
theorem zd_P_changeFaults_16 : decode zc_P_changeFaults 16 = .ok (.iload_n 2, 1) := by decide +kernel
theorem zd_P_changeFaults_17 : decode zc_P_changeFaults 17 = .ok (.if_icmp .eq 7, 3) := by decide +kernel
theorem zd_P_changeFaults_20 : decode zc_P_changeFaults 20 = .ok (.iconst 1, 1) := by decide +kernel
theorem zd_P_changeFaults_21 : decode zc_P_changeFaults 21 = .ok (.goto 4, 3) := by decide +kernel
theorem zd_P_changeFaults_24 : decode zc_P_changeFaults 24 = .ok (.iconst 0, 1) := by decide +kernel
theorem zd_P_changeFaults_25 : decode zc_P_changeFaults 25 = .ok (.istore_n 3, 1) := by decide +kernel
theorem zd_P_changeFaults_26 : decode zc_P_changeFaults 26 = .ok (.aload_n 0, 1) := by decide +kernel
theorem zd_P_changeFaults_27 : decode zc_P_changeFaults 27 = .ok (.getfield 36, 3) := by decide +kernel
theorem zd_P_changeFaults_30 : decode zc_P_changeFaults 30 = .ok (.iload_n 1, 1) := by decide +kernel
theorem zd_P_changeFaults_31 : decode zc_P_changeFaults 31 = .ok (.iload_n 2, 1) := by decide +kernel
theorem zd_P_changeFaults_32 : decode zc_P_changeFaults 32 = .ok (.iastore, 1) := by decide +kernel
theorem zd_P_changeFaults_33 : decode zc_P_changeFaults 33 = .ok (.iload_n 3, 1) := by decide +kernel
theorem zd_P_changeFaults_34 : decode zc_P_changeFaults 34 = .ok (.ireturn, 1) := by decide +kernel
theorem zd_P_workOf_0 : decode zc_P_workOf 0 = .ok (.aload_n 0, 1) := by decide +kernel
theorem zd_P_workOf_1 : decode zc_P_workOf 1 = .ok (.iload_n 1, 1) := by decide +kernel
theorem zd_P_workOf_2 : decode zc_P_workOf 2 = .ok (.invokevirtual 45, 3) := by decide +kernel
theorem zd_P_workOf_5 : decode zc_P_workOf 5 = .ok (.ifCond .eq 12, 3) := by decide +kernel
theorem zd_P_workOf_8 : decode zc_P_workOf 8 = .ok (.aload_n 0, 1) := by decide +kernel
theorem zd_P_workOf_9 : decode zc_P_workOf 9 = .ok (.getfield 24, 3) := by decide +kernel
theorem zd_P_workOf_12 : decode zc_P_workOf 12 = .ok (.iload_n 1, 1) := by decide +kernel
theorem zd_P_workOf_13 : decode zc_P_workOf 13 = .ok (.iaload, 1) := by decide +kernel
theorem zd_P_workOf_14 : decode zc_P_workOf 14 = .ok (.goto 4, 3) := by decide +kernel
theorem zd_P_workOf_17 : decode zc_P_workOf 17 = .ok (.iconst 1, 1) := by decide +kernel
theorem zd_P_workOf_18 : decode zc_P_workOf 18 = .ok (.ireturn, 1) := by decide +kernel
theorem zd_P_faultsOf_0 : decode zc_P_faultsOf 0 = .ok (.aload_n 0, 1) := by decide +kernel
theorem zd_P_faultsOf_1 : decode zc_P_faultsOf 1 = .ok (.iload_n 1, 1) := by decide +kernel
theorem zd_P_faultsOf_2 : decode zc_P_faultsOf 2 = .ok (.invokevirtual 45, 3) := by decide +kernel
theorem zd_P_faultsOf_5 : decode zc_P_faultsOf 5 = .ok (.ifCond .eq 12, 3) := by decide +kernel
theorem zd_P_faultsOf_8 : decode zc_P_faultsOf 8 = .ok (.aload_n 0, 1) := by decide +kernel
theorem zd_P_faultsOf_9 : decode zc_P_faultsOf 9 = .ok (.getfield 36, 3) := by decide +kernel
theorem zd_P_faultsOf_12 : decode zc_P_faultsOf 12 = .ok (.iload_n 1, 1) := by decide +kernel
theorem zd_P_faultsOf_13 : decode zc_P_faultsOf 13 = .ok (.iaload, 1) := by decide +kernel
theorem zd_P_faultsOf_14 : decode zc_P_faultsOf 14 = .ok (.goto 4, 3) := by decide +kernel
theorem zd_P_faultsOf_17 : decode zc_P_faultsOf 17 = .ok (.iconst 0, 1) := by decide +kernel
theorem zd_P_faultsOf_18 : decode zc_P_faultsOf 18 = .ok (.ireturn, 1) := by decide +kernel
theorem zd_P_isSettling_0 : decode zc_P_isSettling 0 = .ok (.aload_n 0, 1) := by decide +kernel
theorem zd_P_isSettling_1 : decode zc_P_isSettling 1 = .ok (.iload_n 1, 1) := by decide +kernel
theorem zd_P_isSettling_2 : decode zc_P_isSettling 2 = .ok (.invokevirtual 45, 3) := by decide +kernel
theorem zd_P_isSettling_5 : decode zc_P_isSettling 5 = .ok (.ifCond .eq 16, 3) := by decide +kernel
theorem zd_P_isSettling_8 : decode zc_P_isSettling 8 = .ok (.aload_n 0, 1) := by decide +kernel
theorem zd_P_isSettling_9 : decode zc_P_isSettling 9 = .ok (.getfield 32, 3) := by decide +kernel
theorem zd_P_isSettling_12 : decode zc_P_isSettling 12 = .ok (.iload_n 1, 1) := by decide +kernel
theorem zd_P_isSettling_13 : decode zc_P_isSettling 13 = .ok (.baload, 1) := by decide +kernel
theorem zd_P_isSettling_14 : decode zc_P_isSettling 14 = .ok (.ifCond .eq 7, 3) := by decide +kernel
theorem zd_P_isSettling_17 : decode zc_P_isSettling 17 = .ok (.iconst 1, 1) := by decide +kernel
theorem zd_P_isSettling_18 : decode zc_P_isSettling 18 = .ok (.goto 4, 3) := by decide +kernel
theorem zd_P_isSettling_21 : decode zc_P_isSettling 21 = .ok (.iconst 0, 1) := by decide +kernel
theorem zd_P_isSettling_22 : decode zc_P_isSettling 22 = .ok (.ireturn, 1) := by decide +kernel
theorem zd_P_winner_0 : decode zc_P_winner 0 = .ok (.iconst 0, 1) := by decide +kernel
theorem zd_P_winner_1 : decode zc_P_winner 1 = .ok (.istore_n 1, 1) := by decide +kernel
theorem zd_P_winner_2 : decode zc_P_winner 2 = .ok (.iload_n 1, 1) := by decide +kernel
theorem zd_P_winner_3 : decode zc_P_winner 3 = .ok (.aload_n 0, 1) := by decide +kernel
theorem zd_P_winner_4 : decode zc_P_winner 4 = .ok (.getfield 18, 3) := by decide +kernel
theorem zd_P_winner_7 : decode zc_P_winner 7 = .ok (.if_icmp .ge 20, 3) := by decide +kernel
theorem zd_P_winner_10 : decode zc_P_winner 10 = .ok (.aload_n 0, 1) := by decide +kernel
theorem zd_P_winner_11 : decode zc_P_winner 11 = .ok (.getfield 32, 3) := by decide +kernel
theorem zd_P_winner_14 : decode zc_P_winner 14 = .ok (.iload_n 1, 1) := by decide +kernel
theorem zd_P_winner_15 : decode zc_P_winner 15 = .ok (.baload, 1) := by decide +kernel
theorem zd_P_winner_16 : decode zc_P_winner 16 = .ok (.ifCond .eq 5, 3) := by decide +kernel
theorem zd_P_winner_19 : decode zc_P_winner 19 = .ok (.iload_n 1, 1) := by decide +kernel
theorem zd_P_winner_20 : decode zc_P_winner 20 = .ok (.ireturn, 1) := by decide +kernel
theorem zd_P_winner_21 : decode zc_P_winner 21 = .ok (.iinc 1 1, 3) := by decide +kernel
theorem zd_P_winner_24 : decode zc_P_winner 24 = .ok (.goto (-22), 3) := by decide +kernel
theorem zd_P_winner_27 : decode zc_P_winner 27 = .ok (.iconst (-1), 1) := by decide +kernel
theorem zd_P_winner_28 : decode zc_P_winner 28 = .ok (.ireturn, 1) := by decide +kernel
theorem zd_P_isBehindWinner_0 : decode zc_P_isBehindWinner 0 = .ok (.aload_n 0, 1) := by decide +kernel
theorem zd_P_isBehindWinner_1 : decode zc_P_isBehindWinner 1 = .ok (.invokevirtual 49, 3) := by decide +kernel
theorem zd_P_isBehindWinner_4 : decode zc_P_isBehindWinner 4 = .ok (.istore_n 2, 1) := by decide +kernel
theorem zd_P_isBehindWinner_5 : decode zc_P_isBehindWinner 5 = .ok (.iload_n 2, 1) := by decide +kernel
theorem zd_P_isBehindWinner_6 : decode zc_P_isBehindWinner 6 = .ok (.iconst (-1), 1) := by decide +kernel
theorem zd_P_isBehindWinner_7 : decode zc_P_isBehindWinner 7 = .ok (.if_icmp .eq 12, 3) := by decide +kernel
theorem zd_P_isBehindWinner_10 : decode zc_P_isBehindWinner 10 = .ok (.iload_n 1, 1) := by decide +kernel
theorem zd_P_isBehindWinner_11 : decode zc_P_isBehindWinner 11 = .ok (.iload_n 2, 1) := by decide +kernel
theorem zd_P_isBehindWinner_12 : decode zc_P_isBehindWinner 12 = .ok (.if_icmp .le 7, 3) := by decide +kernel
theorem zd_P_isBehindWinner_15 : decode zc_P_isBehindWinner 15 = .ok (.iconst 1, 1) := by decide +kernel
theorem zd_P_isBehindWinner_16 : decode zc_P_isBehindWinner 16 = .ok (.goto 4, 3) := by decide +kernel
theorem zd_P_isBehindWinner_19 : decode zc_P_isBehindWinner 19 = .ok (.iconst 0, 1) := by decide +kernel
theorem zd_P_isBehindWinner_20 : decode zc_P_isBehindWinner 20 = .ok (.ireturn, 1) := by decide +kernel
theorem zd_P_outcome_0 : decode zc_P_outcome 0 = .ok (.aload_n 0, 1) := by decide +kernel
theorem zd_P_outcome_1 : decode zc_P_outcome 1 = .ok (.invokevirtual 49, 3) := by decide +kernel
theorem zd_P_outcome_4 : decode zc_P_outcome 4 = .ok (.istore_n 1, 1) := by decide +kernel
theorem zd_P_outcome_5 : decode zc_P_outcome 5 = .ok (.aload_n 0, 1) := by decide +kernel
theorem zd_P_outcome_6 : decode zc_P_outcome 6 = .ok (.iload_n 1, 1) := by decide +kernel
theorem zd_P_outcome_7 : decode zc_P_outcome 7 = .ok (.invokevirtual 45, 3) := by decide +kernel
theorem zd_P_outcome_10 : decode zc_P_outcome 10 = .ok (.ifCond .eq 12, 3) := by decide +kernel
theorem zd_P_outcome_13 : decode zc_P_outcome 13 = .ok (.aload_n 0, 1) := by decide +kernel
theorem zd_P_outcome_14 : decode zc_P_outcome 14 = .ok (.getfield 28, 3) := by decide +kernel
theorem zd_P_outcome_17 : decode zc_P_outcome 17 = .ok (.iload_n 1, 1) := by decide +kernel
theorem zd_P_outcome_18 : decode zc_P_outcome 18 = .ok (.laload, 1) := by decide +kernel
theorem zd_P_outcome_19 : decode zc_P_outcome 19 = .ok (.goto 7, 3) := by decide +kernel
theorem zd_P_outcome_22 : decode zc_P_outcome 22 = .ok (.aload_n 0, 1) := by decide +kernel
theorem zd_P_outcome_23 : decode zc_P_outcome 23 = .ok (.invokevirtual 53, 3) := by decide +kernel
theorem zd_P_outcome_26 : decode zc_P_outcome 26 = .ok (.lreturn, 1) := by decide +kernel
theorem zd_P_sumOfWorths_0 : decode zc_P_sumOfWorths 0 = .ok (.lconst 0, 1) := by decide +kernel
theorem zd_P_sumOfWorths_1 : decode zc_P_sumOfWorths 1 = .ok (.lstore_n 1, 1) := by decide +kernel
theorem zd_P_sumOfWorths_2 : decode zc_P_sumOfWorths 2 = .ok (.iconst 0, 1) := by decide +kernel
theorem zd_P_sumOfWorths_3 : decode zc_P_sumOfWorths 3 = .ok (.istore_n 3, 1) := by decide +kernel
theorem zd_P_sumOfWorths_4 : decode zc_P_sumOfWorths 4 = .ok (.iload_n 3, 1) := by decide +kernel
theorem zd_P_sumOfWorths_5 : decode zc_P_sumOfWorths 5 = .ok (.aload_n 0, 1) := by decide +kernel
theorem zd_P_sumOfWorths_6 : decode zc_P_sumOfWorths 6 = .ok (.getfield 18, 3) := by decide +kernel
theorem zd_P_sumOfWorths_9 : decode zc_P_sumOfWorths 9 = .ok (.if_icmp .ge 18, 3) := by decide +kernel
theorem zd_P_sumOfWorths_12 : decode zc_P_sumOfWorths 12 = .ok (.lload_n 1, 1) := by decide +kernel
theorem zd_P_sumOfWorths_13 : decode zc_P_sumOfWorths 13 = .ok (.aload_n 0, 1) := by decide +kernel
theorem zd_P_sumOfWorths_14 : decode zc_P_sumOfWorths 14 = .ok (.getfield 28, 3) := by decide +kernel
theorem zd_P_sumOfWorths_17 : decode zc_P_sumOfWorths 17 = .ok (.iload_n 3, 1) := by decide +kernel
theorem zd_P_sumOfWorths_18 : decode zc_P_sumOfWorths 18 = .ok (.laload, 1) := by decide +kernel
theorem zd_P_sumOfWorths_19 : decode zc_P_sumOfWorths 19 = .ok (.ladd, 1) := by decide +kernel
theorem zd_P_sumOfWorths_20 : decode zc_P_sumOfWorths 20 = .ok (.lstore_n 1, 1) := by decide +kernel
theorem zd_P_sumOfWorths_21 : decode zc_P_sumOfWorths 21 = .ok (.iinc 3 1, 3) := by decide +kernel
theorem zd_P_sumOfWorths_24 : decode zc_P_sumOfWorths 24 = .ok (.goto (-20), 3) := by decide +kernel
theorem zd_P_sumOfWorths_27 : decode zc_P_sumOfWorths 27 = .ok (.lload_n 1, 1) := by decide +kernel
theorem zd_P_sumOfWorths_28 : decode zc_P_sumOfWorths 28 = .ok (.lreturn, 1) := by decide +kernel
