theorem zd_S_init_0 : decode zc_S_init 0 = .ok (.aload_n 0, 1) := by decide +kernel
theorem zd_S_init_1 : decode zc_S_init 1 = .ok (.invokespecial 1, 3) := by decide +kernel
theorem zd_S_init_4 : decode zc_S_init 4 = .ok (.aload_n 0, 1) := by decide +kernel
theorem zd_S_init_5 : decode zc_S_init 5 = .ok (.new 7, 3) := by decide +kernel
theorem zd_S_init_8 : decode zc_S_init 8 = .ok (.dup, 1) := by decide +kernel
theorem zd_S_init_9 : decode zc_S_init 9 = .ok (.iload_n 1, 1) := by decide +kernel
theorem zd_S_init_10 : decode zc_S_init 10 = .ok (.invokespecial 9, 3) := by decide +kernel
theorem zd_S_init_13 : decode zc_S_init 13 = .ok (.putfield 12, 3) := by decide +kernel
theorem zd_S_init_16 : decode zc_S_init 16 = .ok (.aload_n 0, 1) := by decide +kernel
theorem zd_S_init_17 : decode zc_S_init 17 = .ok (.new 18, 3) := by decide +kernel
theorem zd_S_init_20 : decode zc_S_init 20 = .ok (.dup, 1) := by decide +kernel
theorem zd_S_init_21 : decode zc_S_init 21 = .ok (.aload_n 0, 1) := by decide +kernel
theorem zd_S_init_22 : decode zc_S_init 22 = .ok (.getfield 12, 3) := by decide +kernel
theorem zd_S_init_25 : decode zc_S_init 25 = .ok (.invokespecial 20, 3) := by decide +kernel
theorem zd_S_init_28 : decode zc_S_init 28 = .ok (.putfield 23, 3) := by decide +kernel
theorem zd_S_init_31 : decode zc_S_init 31 = .ok (.aload_n 0, 1) := by decide +kernel
theorem zd_S_init_32 : decode zc_S_init 32 = .ok (.iconst 0, 1) := by decide +kernel
theorem zd_S_init_33 : decode zc_S_init 33 = .ok (.putfield 27, 3) := by decide +kernel
theorem zd_S_init_36 : decode zc_S_init 36 = .ok (.return_, 1) := by decide +kernel
theorem zd_S_value_0 : decode zc_S_value 0 = .ok (.aload_n 0, 1) := by decide +kernel
theorem zd_S_value_1 : decode zc_S_value 1 = .ok (.iload_n 1, 1) := by decide +kernel
theorem zd_S_value_2 : decode zc_S_value 2 = .ok (.invokevirtual 31, 3) := by decide +kernel
theorem zd_S_value_5 : decode zc_S_value 5 = .ok (.iload_n 2, 1) := by decide +kernel
theorem zd_S_value_6 : decode zc_S_value 6 = .ok (.iconst 1, 1) := by decide +kernel
theorem zd_S_value_7 : decode zc_S_value 7 = .ok (.if_icmp .lt 9, 3) := by decide +kernel
theorem zd_S_value_10 : decode zc_S_value 10 = .ok (.iload_n 2, 1) := by decide +kernel
theorem zd_S_value_11 : decode zc_S_value 11 = .ok (.bipush 100, 2) := by decide +kernel
theorem zd_S_value_13 : decode zc_S_value 13 = .ok (.if_icmp .le 13, 3) := by decide +kernel
theorem zd_S_value_16 : decode zc_S_value 16 = .ok (.new 34, 3) := by decide +kernel
theorem zd_S_value_19 : decode zc_S_value 19 = .ok (.dup, 1) := by decide +kernel
theorem zd_S_value_20 : decode zc_S_value 20 = .ok (.ldc 36, 2) := by decide +kernel
theorem zd_S_value_22 : decode zc_S_value 22 = .ok (.invokespecial 38, 3) := by decide +kernel
theorem zd_S_value_25 : decode zc_S_value 25 = .ok (.athrow, 1) := by decide +kernel
theorem zd_S_value_26 : decode zc_S_value 26 = .ok (.aload_n 0, 1) := by decide +kernel
theorem zd_S_value_27 : decode zc_S_value 27 = .ok (.getfield 12, 3) := by decide +kernel
theorem zd_S_value_30 : decode zc_S_value 30 = .ok (.iload_n 1, 1) := by decide +kernel
theorem zd_S_value_31 : decode zc_S_value 31 = .ok (.iload_n 2, 1) := by decide +kernel
theorem zd_S_value_32 : decode zc_S_value 32 = .ok (.lload_n 3, 1) := by decide +kernel
theorem zd_S_value_33 : decode zc_S_value 33 = .ok (.iload 5, 2) := by decide +kernel
theorem zd_S_value_35 : decode zc_S_value 35 = .ok (.invokevirtual 41, 3) := by decide +kernel
theorem zd_S_value_38 : decode zc_S_value 38 = .ok (.istore 6, 2) := by decide +kernel
theorem zd_S_value_40 : decode zc_S_value 40 = .ok (.aload_n 0, 1) := by decide +kernel
theorem zd_S_value_41 : decode zc_S_value 41 = .ok (.iload 6, 2) := by decide +kernel
theorem zd_S_value_43 : decode zc_S_value 43 = .ok (.invokevirtual 45, 3) := by decide +kernel
theorem zd_S_value_46 : decode zc_S_value 46 = .ok (.iload 6, 2) := by decide +kernel
theorem zd_S_value_48 : decode zc_S_value 48 = .ok (.ireturn, 1) := by decide +kernel
theorem zd_S_faults_0 : decode zc_S_faults 0 = .ok (.aload_n 0, 1) := by decide +kernel
theorem zd_S_faults_1 : decode zc_S_faults 1 = .ok (.iload_n 1, 1) := by decide +kernel
theorem zd_S_faults_2 : decode zc_S_faults 2 = .ok (.invokevirtual 31, 3) := by decide +kernel
theorem zd_S_faults_5 : decode zc_S_faults 5 = .ok (.iload_n 2, 1) := by decide +kernel
theorem zd_S_faults_6 : decode zc_S_faults 6 = .ok (.ifCond .lt 8, 3) := by decide +kernel
theorem zd_S_faults_9 : decode zc_S_faults 9 = .ok (.iload_n 2, 1) := by decide +kernel
theorem zd_S_faults_10 : decode zc_S_faults 10 = .ok (.iconst 3, 1) := by decide +kernel
theorem zd_S_faults_11 : decode zc_S_faults 11 = .ok (.if_icmp .le 13, 3) := by decide +kernel
theorem zd_S_faults_14 : decode zc_S_faults 14 = .ok (.new 34, 3) := by decide +kernel
theorem zd_S_faults_17 : decode zc_S_faults 17 = .ok (.dup, 1) := by decide +kernel
theorem zd_S_faults_18 : decode zc_S_faults 18 = .ok (.ldc 49, 2) := by decide +kernel
theorem zd_S_faults_20 : decode zc_S_faults 20 = .ok (.invokespecial 38, 3) := by decide +kernel
theorem zd_S_faults_23 : decode zc_S_faults 23 = .ok (.athrow, 1) := by decide +kernel
theorem zd_S_faults_24 : decode zc_S_faults 24 = .ok (.aload_n 0, 1) := by decide +kernel
theorem zd_S_faults_25 : decode zc_S_faults 25 = .ok (.getfield 12, 3) := by decide +kernel
theorem zd_S_faults_28 : decode zc_S_faults 28 = .ok (.iload_n 1, 1) := by decide +kernel
theorem zd_S_faults_29 : decode zc_S_faults 29 = .ok (.iload_n 2, 1) := by decide +kernel
theorem zd_S_faults_30 : decode zc_S_faults 30 = .ok (.invokevirtual 51, 3) := by decide +kernel
theorem zd_S_faults_33 : decode zc_S_faults 33 = .ok (.istore_n 3, 1) := by decide +kernel
theorem zd_S_faults_34 : decode zc_S_faults 34 = .ok (.aload_n 0, 1) := by decide +kernel
theorem zd_S_faults_35 : decode zc_S_faults 35 = .ok (.iload_n 3, 1) := by decide +kernel
theorem zd_S_faults_36 : decode zc_S_faults 36 = .ok (.invokevirtual 45, 3) := by decide +kernel
theorem zd_S_faults_39 : decode zc_S_faults 39 = .ok (.iload_n 3, 1) := by decide +kernel
theorem zd_S_faults_40 : decode zc_S_faults 40 = .ok (.ireturn, 1) := by decide +kernel
theorem zd_S_run_0 : decode zc_S_run 0 = .ok (.iload_n 1, 1) := by decide +kernel
theorem zd_S_run_1 : decode zc_S_run 1 = .ok (.iconst 1, 1) := by decide +kernel
theorem zd_S_run_2 : decode zc_S_run 2 = .ok (.if_icmp .lt 9, 3) := by decide +kernel
theorem zd_S_run_5 : decode zc_S_run 5 = .ok (.iload_n 1, 1) := by decide +kernel
theorem zd_S_run_6 : decode zc_S_run 6 = .ok (.bipush 16, 2) := by decide +kernel
theorem zd_S_run_8 : decode zc_S_run 8 = .ok (.if_icmp .le 13, 3) := by decide +kernel
theorem zd_S_run_11 : decode zc_S_run 11 = .ok (.new 34, 3) := by decide +kernel
theorem zd_S_run_14 : decode zc_S_run 14 = .ok (.dup, 1) := by decide +kernel
theorem zd_S_run_15 : decode zc_S_run 15 = .ok (.ldc 55, 2) := by decide +kernel
theorem zd_S_run_17 : decode zc_S_run 17 = .ok (.invokespecial 38, 3) := by decide +kernel
theorem zd_S_run_20 : decode zc_S_run 20 = .ok (.athrow, 1) := by decide +kernel
theorem zd_S_run_21 : decode zc_S_run 21 = .ok (.iload 4, 2) := by decide +kernel
theorem zd_S_run_23 : decode zc_S_run 23 = .ok (.ifCond .lt 11, 3) := by decide +kernel
theorem zd_S_run_26 : decode zc_S_run 26 = .ok (.iload 4, 2) := by decide +kernel
theorem zd_S_run_28 : decode zc_S_run 28 = .ok (.sipush 10000, 3) := by decide +kernel
theorem zd_S_run_31 : decode zc_S_run 31 = .ok (.if_icmp .le 13, 3) := by decide +kernel
theorem zd_S_run_34 : decode zc_S_run 34 = .ok (.new 34, 3) := by decide +kernel
theorem zd_S_run_37 : decode zc_S_run 37 = .ok (.dup, 1) := by decide +kernel
theorem zd_S_run_38 : decode zc_S_run 38 = .ok (.ldc 57, 2) := by decide +kernel
theorem zd_S_run_40 : decode zc_S_run 40 = .ok (.invokespecial 38, 3) := by decide +kernel
theorem zd_S_run_43 : decode zc_S_run 43 = .ok (.athrow, 1) := by decide +kernel
theorem zd_S_run_44 : decode zc_S_run 44 = .ok (.aload_n 0, 1) := by decide +kernel
theorem zd_S_run_45 : decode zc_S_run 45 = .ok (.getfield 23, 3) := by decide +kernel
theorem zd_S_run_48 : decode zc_S_run 48 = .ok (.iload_n 1, 1) := by decide +kernel
theorem zd_S_run_49 : decode zc_S_run 49 = .ok (.lload_n 2, 1) := by decide +kernel
theorem zd_S_run_50 : decode zc_S_run 50 = .ok (.invokevirtual 59, 3) := by decide +kernel
theorem zd_S_run_53 : decode zc_S_run 53 = .ok (.aload_n 0, 1) := by decide +kernel
theorem zd_S_run_54 : decode zc_S_run 54 = .ok (.aload_n 0, 1) := by decide +kernel
theorem zd_S_run_55 : decode zc_S_run 55 = .ok (.getfield 23, 3) := by decide +kernel
theorem zd_S_run_58 : decode zc_S_run 58 = .ok (.iload 4, 2) := by decide +kernel
theorem zd_S_run_60 : decode zc_S_run 60 = .ok (.invokevirtual 63, 3) := by decide +kernel
theorem zd_S_run_63 : decode zc_S_run 63 = .ok (.putfield 27, 3) := by decide +kernel
theorem zd_S_run_66 : decode zc_S_run 66 = .ok (.aload_n 0, 1) := by decide +kernel
theorem zd_S_run_67 : decode zc_S_run 67 = .ok (.getfield 27, 3) := by decide +kernel
theorem zd_S_run_70 : decode zc_S_run 70 = .ok (.ifCond .eq 13, 3) := by decide +kernel
theorem zd_S_run_73 : decode zc_S_run 73 = .ok (.aload_n 0, 1) := by decide +kernel
theorem zd_S_run_74 : decode zc_S_run 74 = .ok (.getfield 12, 3) := by decide +kernel
theorem zd_S_run_77 : decode zc_S_run 77 = .ok (.invokevirtual 67, 3) := by decide +kernel
theorem zd_S_run_80 : decode zc_S_run 80 = .ok (.goto 5, 3) := by decide +kernel
theorem zd_S_run_83 : decode zc_S_run 83 = .ok (.bipush (-2), 2) := by decide +kernel
theorem zd_S_run_85 : decode zc_S_run 85 = .ok (.ireturn, 1) := by decide +kernel
theorem zd_S_answer_0 : decode zc_S_answer 0 = .ok (.aload_n 0, 1) := by decide +kernel
theorem zd_S_answer_1 : decode zc_S_answer 1 = .ok (.invokevirtual 71, 3) := by decide +kernel
theorem zd_S_answer_4 : decode zc_S_answer 4 = .ok (.aload_n 0, 1) := by decide +kernel
theorem zd_S_answer_5 : decode zc_S_answer 5 = .ok (.getfield 12, 3) := by decide +kernel
theorem zd_S_answer_8 : decode zc_S_answer 8 = .ok (.invokevirtual 74, 3) := by decide +kernel
theorem zd_S_answer_11 : decode zc_S_answer 11 = .ok (.lreturn, 1) := by decide +kernel
theorem zd_S_ticks_0 : decode zc_S_ticks 0 = .ok (.aload_n 0, 1) := by decide +kernel
theorem zd_S_ticks_1 : decode zc_S_ticks 1 = .ok (.invokevirtual 71, 3) := by decide +kernel
theorem zd_S_ticks_4 : decode zc_S_ticks 4 = .ok (.iload_n 1, 1) := by decide +kernel
theorem zd_S_ticks_5 : decode zc_S_ticks 5 = .ok (.tableswitch 59 0 2 #[27, 35, 51], 27) := by decide +kernel
theorem zd_S_ticks_32 : decode zc_S_ticks 32 = .ok (.aload_n 0, 1) := by decide +kernel
theorem zd_S_ticks_33 : decode zc_S_ticks 33 = .ok (.getfield 23, 3) := by decide +kernel
theorem zd_S_ticks_36 : decode zc_S_ticks 36 = .ok (.invokevirtual 78, 3) := by decide +kernel
theorem zd_S_ticks_39 : decode zc_S_ticks 39 = .ok (.ireturn, 1) := by decide +kernel
theorem zd_S_ticks_40 : decode zc_S_ticks 40 = .ok (.aload_n 0, 1) := by decide +kernel
theorem zd_S_ticks_41 : decode zc_S_ticks 41 = .ok (.getfield 23, 3) := by decide +kernel
theorem zd_S_ticks_44 : decode zc_S_ticks 44 = .ok (.invokevirtual 81, 3) := by decide +kernel
theorem zd_S_ticks_47 : decode zc_S_ticks 47 = .ok (.aload_n 0, 1) := by decide +kernel
theorem zd_S_ticks_48 : decode zc_S_ticks 48 = .ok (.getfield 23, 3) := by decide +kernel
theorem zd_S_ticks_51 : decode zc_S_ticks 51 = .ok (.invokevirtual 78, 3) := by decide +kernel
theorem zd_S_ticks_54 : decode zc_S_ticks 54 = .ok (.isub, 1) := by decide +kernel
theorem zd_S_ticks_55 : decode zc_S_ticks 55 = .ok (.ireturn, 1) := by decide +kernel
theorem zd_S_ticks_56 : decode zc_S_ticks 56 = .ok (.aload_n 0, 1) := by decide +kernel
theorem zd_S_ticks_57 : decode zc_S_ticks 57 = .ok (.getfield 23, 3) := by decide +kernel
theorem zd_S_ticks_60 : decode zc_S_ticks 60 = .ok (.invokevirtual 81, 3) := by decide +kernel
theorem zd_S_ticks_63 : decode zc_S_ticks 63 = .ok (.ireturn, 1) := by decide +kernel
theorem zd_S_ticks_64 : decode zc_S_ticks 64 = .ok (.iconst (-1), 1) := by decide +kernel
theorem zd_S_ticks_65 : decode zc_S_ticks 65 = .ok (.ireturn, 1) := by decide +kernel
theorem zd_S_worked_0 : decode zc_S_worked 0 = .ok (.aload_n 0, 1) := by decide +kernel
theorem zd_S_worked_1 : decode zc_S_worked 1 = .ok (.invokevirtual 71, 3) := by decide +kernel
theorem zd_S_worked_4 : decode zc_S_worked 4 = .ok (.aload_n 0, 1) := by decide +kernel
theorem zd_S_worked_5 : decode zc_S_worked 5 = .ok (.getfield 23, 3) := by decide +kernel
theorem zd_S_worked_8 : decode zc_S_worked 8 = .ok (.iload_n 1, 1) := by decide +kernel
theorem zd_S_worked_9 : decode zc_S_worked 9 = .ok (.invokevirtual 84, 3) := by decide +kernel
theorem zd_S_worked_12 : decode zc_S_worked 12 = .ok (.ifCond .ne 13, 3) := by decide +kernel
theorem zd_S_worked_15 : decode zc_S_worked 15 = .ok (.new 87, 3) := by decide +kernel
theorem zd_S_worked_18 : decode zc_S_worked 18 = .ok (.dup, 1) := by decide +kernel
theorem zd_S_worked_19 : decode zc_S_worked 19 = .ok (.ldc 89, 2) := by decide +kernel
theorem zd_S_worked_21 : decode zc_S_worked 21 = .ok (.invokespecial 91, 3) := by decide +kernel
theorem zd_S_worked_24 : decode zc_S_worked 24 = .ok (.athrow, 1) := by decide +kernel
theorem zd_S_worked_25 : decode zc_S_worked 25 = .ok (.aload_n 0, 1) := by decide +kernel
theorem zd_S_worked_26 : decode zc_S_worked 26 = .ok (.getfield 23, 3) := by decide +kernel
theorem zd_S_worked_29 : decode zc_S_worked 29 = .ok (.iload_n 1, 1) := by decide +kernel
theorem zd_S_worked_30 : decode zc_S_worked 30 = .ok (.invokevirtual 92, 3) := by decide +kernel
theorem zd_S_worked_33 : decode zc_S_worked 33 = .ok (.ireturn, 1) := by decide +kernel
theorem zd_S_done_0 : decode zc_S_done 0 = .ok (.aload_n 0, 1) := by decide +kernel
theorem zd_S_done_1 : decode zc_S_done 1 = .ok (.invokevirtual 71, 3) := by decide +kernel
theorem zd_S_done_4 : decode zc_S_done 4 = .ok (.aload_n 0, 1) := by decide +kernel
theorem zd_S_done_5 : decode zc_S_done 5 = .ok (.getfield 23, 3) := by decide +kernel
theorem zd_S_done_8 : decode zc_S_done 8 = .ok (.iload_n 1, 1) := by decide +kernel
theorem zd_S_done_9 : decode zc_S_done 9 = .ok (.invokevirtual 96, 3) := by decide +kernel
theorem zd_S_done_12 : decode zc_S_done 12 = .ok (.ifCond .ne 13, 3) := by decide +kernel
theorem zd_S_done_15 : decode zc_S_done 15 = .ok (.new 87, 3) := by decide +kernel
theorem zd_S_done_18 : decode zc_S_done 18 = .ok (.dup, 1) := by decide +kernel
theorem zd_S_done_19 : decode zc_S_done 19 = .ok (.ldc 99, 2) := by decide +kernel
theorem zd_S_done_21 : decode zc_S_done 21 = .ok (.invokespecial 91, 3) := by decide +kernel
theorem zd_S_done_24 : decode zc_S_done 24 = .ok (.athrow, 1) := by decide +kernel
theorem zd_S_done_25 : decode zc_S_done 25 = .ok (.aload_n 0, 1) := by decide +kernel
theorem zd_S_done_26 : decode zc_S_done 26 = .ok (.getfield 23, 3) := by decide +kernel
theorem zd_S_done_29 : decode zc_S_done 29 = .ok (.iload_n 1, 1) := by decide +kernel
theorem zd_S_done_30 : decode zc_S_done 30 = .ok (.invokevirtual 101, 3) := by decide +kernel
theorem zd_S_done_33 : decode zc_S_done 33 = .ok (.ireturn, 1) := by decide +kernel
theorem zd_S_by_0 : decode zc_S_by 0 = .ok (.aload_n 0, 1) := by decide +kernel
theorem zd_S_by_1 : decode zc_S_by 1 = .ok (.invokevirtual 71, 3) := by decide +kernel
theorem zd_S_by_4 : decode zc_S_by 4 = .ok (.aload_n 0, 1) := by decide +kernel
theorem zd_S_by_5 : decode zc_S_by 5 = .ok (.iload_n 1, 1) := by decide +kernel
theorem zd_S_by_6 : decode zc_S_by 6 = .ok (.invokevirtual 31, 3) := by decide +kernel
theorem zd_S_by_9 : decode zc_S_by 9 = .ok (.aload_n 0, 1) := by decide +kernel
theorem zd_S_by_10 : decode zc_S_by 10 = .ok (.getfield 12, 3) := by decide +kernel
theorem zd_S_by_13 : decode zc_S_by 13 = .ok (.iload_n 1, 1) := by decide +kernel
theorem zd_S_by_14 : decode zc_S_by 14 = .ok (.invokevirtual 104, 3) := by decide +kernel
theorem zd_S_by_17 : decode zc_S_by 17 = .ok (.ifCond .eq 7, 3) := by decide +kernel
theorem zd_S_by_20 : decode zc_S_by 20 = .ok (.iconst (-1), 1) := by decide +kernel
theorem zd_S_by_21 : decode zc_S_by 21 = .ok (.goto 11, 3) := by decide +kernel
theorem zd_S_by_24 : decode zc_S_by 24 = .ok (.aload_n 0, 1) := by decide +kernel
theorem zd_S_by_25 : decode zc_S_by 25 = .ok (.getfield 23, 3) := by decide +kernel
theorem zd_S_by_28 : decode zc_S_by 28 = .ok (.iload_n 1, 1) := by decide +kernel
theorem zd_S_by_29 : decode zc_S_by 29 = .ok (.invokevirtual 107, 3) := by decide +kernel
theorem zd_S_by_32 : decode zc_S_by 32 = .ok (.ireturn, 1) := by decide +kernel
theorem zd_S_failed_0 : decode zc_S_failed 0 = .ok (.aload_n 0, 1) := by decide +kernel
theorem zd_S_failed_1 : decode zc_S_failed 1 = .ok (.invokevirtual 71, 3) := by decide +kernel
theorem zd_S_failed_4 : decode zc_S_failed 4 = .ok (.aload_n 0, 1) := by decide +kernel
theorem zd_S_failed_5 : decode zc_S_failed 5 = .ok (.iload_n 1, 1) := by decide +kernel
theorem zd_S_failed_6 : decode zc_S_failed 6 = .ok (.invokevirtual 31, 3) := by decide +kernel
theorem zd_S_failed_9 : decode zc_S_failed 9 = .ok (.aload_n 0, 1) := by decide +kernel
theorem zd_S_failed_10 : decode zc_S_failed 10 = .ok (.getfield 12, 3) := by decide +kernel
theorem zd_S_failed_13 : decode zc_S_failed 13 = .ok (.iload_n 1, 1) := by decide +kernel
theorem zd_S_failed_14 : decode zc_S_failed 14 = .ok (.invokevirtual 104, 3) := by decide +kernel
theorem zd_S_failed_17 : decode zc_S_failed 17 = .ok (.ifCond .eq 7, 3) := by decide +kernel
theorem zd_S_failed_20 : decode zc_S_failed 20 = .ok (.iconst 0, 1) := by decide +kernel
theorem zd_S_failed_21 : decode zc_S_failed 21 = .ok (.goto 11, 3) := by decide +kernel
theorem zd_S_failed_24 : decode zc_S_failed 24 = .ok (.aload_n 0, 1) := by decide +kernel
theorem zd_S_failed_25 : decode zc_S_failed 25 = .ok (.getfield 23, 3) := by decide +kernel
theorem zd_S_failed_28 : decode zc_S_failed 28 = .ok (.iload_n 1, 1) := by decide +kernel
theorem zd_S_failed_29 : decode zc_S_failed 29 = .ok (.invokevirtual 110, 3) := by decide +kernel
theorem zd_S_failed_32 : decode zc_S_failed 32 = .ok (.ireturn, 1) := by decide +kernel
theorem zd_S_at_0 : decode zc_S_at 0 = .ok (.aload_n 0, 1) := by decide +kernel
theorem zd_S_at_1 : decode zc_S_at 1 = .ok (.invokevirtual 71, 3) := by decide +kernel
theorem zd_S_at_4 : decode zc_S_at 4 = .ok (.aload_n 0, 1) := by decide +kernel
theorem zd_S_at_5 : decode zc_S_at 5 = .ok (.iload_n 1, 1) := by decide +kernel
theorem zd_S_at_6 : decode zc_S_at 6 = .ok (.invokevirtual 31, 3) := by decide +kernel
theorem zd_S_at_9 : decode zc_S_at 9 = .ok (.aload_n 0, 1) := by decide +kernel
theorem zd_S_at_10 : decode zc_S_at 10 = .ok (.getfield 12, 3) := by decide +kernel
theorem zd_S_at_13 : decode zc_S_at 13 = .ok (.iload_n 1, 1) := by decide +kernel
theorem zd_S_at_14 : decode zc_S_at 14 = .ok (.invokevirtual 104, 3) := by decide +kernel
theorem zd_S_at_17 : decode zc_S_at 17 = .ok (.ifCond .eq 7, 3) := by decide +kernel
theorem zd_S_at_20 : decode zc_S_at 20 = .ok (.iconst 0, 1) := by decide +kernel
theorem zd_S_at_21 : decode zc_S_at 21 = .ok (.goto 11, 3) := by decide +kernel
theorem zd_S_at_24 : decode zc_S_at 24 = .ok (.aload_n 0, 1) := by decide +kernel
theorem zd_S_at_25 : decode zc_S_at 25 = .ok (.getfield 23, 3) := by decide +kernel
theorem zd_S_at_28 : decode zc_S_at 28 = .ok (.iload_n 1, 1) := by decide +kernel
theorem zd_S_at_29 : decode zc_S_at 29 = .ok (.invokevirtual 113, 3) := by decide +kernel
theorem zd_S_at_32 : decode zc_S_at 32 = .ok (.ireturn, 1) := by decide +kernel
theorem zd_S_count_0 : decode zc_S_count 0 = .ok (.aload_n 0, 1) := by decide +kernel
theorem zd_S_count_1 : decode zc_S_count 1 = .ok (.getfield 12, 3) := by decide +kernel
theorem zd_S_count_4 : decode zc_S_count 4 = .ok (.invokevirtual 116, 3) := by decide +kernel
theorem zd_S_count_7 : decode zc_S_count 7 = .ok (.ireturn, 1) := by decide +kernel
theorem zd_S_needKnown_0 : decode zc_S_needKnown 0 = .ok (.aload_n 0, 1) := by decide +kernel
theorem zd_S_needKnown_1 : decode zc_S_needKnown 1 = .ok (.getfield 27, 3) := by decide +kernel
theorem zd_S_needKnown_4 : decode zc_S_needKnown 4 = .ok (.ifCond .ne 13, 3) := by decide +kernel
theorem zd_S_needKnown_7 : decode zc_S_needKnown 7 = .ok (.new 119, 3) := by decide +kernel
theorem zd_S_needKnown_10 : decode zc_S_needKnown 10 = .ok (.dup, 1) := by decide +kernel
theorem zd_S_needKnown_11 : decode zc_S_needKnown 11 = .ok (.ldc 121, 2) := by decide +kernel
theorem zd_S_needKnown_13 : decode zc_S_needKnown 13 = .ok (.invokespecial 123, 3) := by decide +kernel
theorem zd_S_needKnown_16 : decode zc_S_needKnown 16 = .ok (.athrow, 1) := by decide +kernel
theorem zd_S_needKnown_17 : decode zc_S_needKnown 17 = .ok (.return_, 1) := by decide +kernel
theorem zd_S_needShare_0 : decode zc_S_needShare 0 = .ok (.aload_n 0, 1) := by decide +kernel
theorem zd_S_needShare_1 : decode zc_S_needShare 1 = .ok (.getfield 12, 3) := by decide +kernel
theorem zd_S_needShare_4 : decode zc_S_needShare 4 = .ok (.iload_n 1, 1) := by decide +kernel
theorem zd_S_needShare_5 : decode zc_S_needShare 5 = .ok (.invokevirtual 124, 3) := by decide +kernel
theorem zd_S_needShare_8 : decode zc_S_needShare 8 = .ok (.ifCond .ne 13, 3) := by decide +kernel
theorem zd_S_needShare_11 : decode zc_S_needShare 11 = .ok (.new 87, 3) := by decide +kernel
theorem zd_S_needShare_14 : decode zc_S_needShare 14 = .ok (.dup, 1) := by decide +kernel
theorem zd_S_needShare_15 : decode zc_S_needShare 15 = .ok (.ldc 127, 2) := by decide +kernel
theorem zd_S_needShare_17 : decode zc_S_needShare 17 = .ok (.invokespecial 91, 3) := by decide +kernel
theorem zd_S_needShare_20 : decode zc_S_needShare 20 = .ok (.athrow, 1) := by decide +kernel
theorem zd_S_needShare_21 : decode zc_S_needShare 21 = .ok (.return_, 1) := by decide +kernel
theorem zd_S_forgetIf_0 : decode zc_S_forgetIf 0 = .ok (.iload_n 1, 1) := by decide +kernel
theorem zd_S_forgetIf_1 : decode zc_S_forgetIf 1 = .ok (.ifCond .eq 8, 3) := by decide +kernel
theorem zd_S_forgetIf_4 : decode zc_S_forgetIf 4 = .ok (.aload_n 0, 1) := by decide +kernel
theorem zd_S_forgetIf_5 : decode zc_S_forgetIf 5 = .ok (.iconst 0, 1) := by decide +kernel
theorem zd_S_forgetIf_6 : decode zc_S_forgetIf 6 = .ok (.putfield 27, 3) := by decide +kernel
theorem zd_S_forgetIf_9 : decode zc_S_forgetIf 9 = .ok (.return_, 1) := by decide +kernel
