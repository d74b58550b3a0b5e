theorem zd_L_cell_0 : decode zc_L_cell 0 = .ok (.iload_n 1, 1) := by decide +kernel
theorem zd_L_cell_1 : decode zc_L_cell 1 = .ok (.aload_n 0, 1) := by decide +kernel
theorem zd_L_cell_2 : decode zc_L_cell 2 = .ok (.arraylength, 1) := by decide +kernel
theorem zd_L_cell_3 : decode zc_L_cell 3 = .ok (.if_icmp .ge 9, 3) := by decide +kernel
theorem zd_L_cell_6 : decode zc_L_cell 6 = .ok (.aload_n 0, 1) := by decide +kernel
theorem zd_L_cell_7 : decode zc_L_cell 7 = .ok (.iload_n 1, 1) := by decide +kernel
theorem zd_L_cell_8 : decode zc_L_cell 8 = .ok (.iaload, 1) := by decide +kernel
theorem zd_L_cell_9 : decode zc_L_cell 9 = .ok (.goto 4, 3) := by decide +kernel
theorem zd_L_cell_12 : decode zc_L_cell 12 = .ok (.iconst 0, 1) := by decide +kernel
theorem zd_L_cell_13 : decode zc_L_cell 13 = .ok (.ireturn, 1) := by decide +kernel
theorem zd_L_value_0 : decode zc_L_value 0 = .ok (.aload 6, 2) := by decide +kernel
theorem zd_L_value_2 : decode zc_L_value 2 = .ok (.iconst 0, 1) := by decide +kernel
theorem zd_L_value_3 : decode zc_L_value 3 = .ok (.aload_n 0, 1) := by decide +kernel
theorem zd_L_value_4 : decode zc_L_value 4 = .ok (.iload_n 1, 1) := by decide +kernel
theorem zd_L_value_5 : decode zc_L_value 5 = .ok (.iload_n 2, 1) := by decide +kernel
theorem zd_L_value_6 : decode zc_L_value 6 = .ok (.lload_n 3, 1) := by decide +kernel
theorem zd_L_value_7 : decode zc_L_value 7 = .ok (.iload 5, 2) := by decide +kernel
theorem zd_L_value_9 : decode zc_L_value 9 = .ok (.invokevirtual 7, 3) := by decide +kernel
theorem zd_L_value_12 : decode zc_L_value 12 = .ok (.ifCond .eq 7, 3) := by decide +kernel
theorem zd_L_value_15 : decode zc_L_value 15 = .ok (.lconst 1, 1) := by decide +kernel
theorem zd_L_value_16 : decode zc_L_value 16 = .ok (.goto 4, 3) := by decide +kernel
theorem zd_L_value_19 : decode zc_L_value 19 = .ok (.lconst 0, 1) := by decide +kernel
theorem zd_L_value_20 : decode zc_L_value 20 = .ok (.lastore, 1) := by decide +kernel
theorem zd_L_value_21 : decode zc_L_value 21 = .ok (.goto 11, 3) := by decide +kernel
theorem zd_L_value_24 : decode zc_L_value 24 = .ok (.astore 7, 2) := by decide +kernel
theorem zd_L_value_26 : decode zc_L_value 26 = .ok (.iconst 1, 1) := by decide +kernel
theorem zd_L_value_27 : decode zc_L_value 27 = .ok (.ireturn, 1) := by decide +kernel
theorem zd_L_value_28 : decode zc_L_value 28 = .ok (.astore 7, 2) := by decide +kernel
theorem zd_L_value_30 : decode zc_L_value 30 = .ok (.iconst 2, 1) := by decide +kernel
theorem zd_L_value_31 : decode zc_L_value 31 = .ok (.ireturn, 1) := by decide +kernel
theorem zd_L_value_32 : decode zc_L_value 32 = .ok (.iconst 0, 1) := by decide +kernel
theorem zd_L_value_33 : decode zc_L_value 33 = .ok (.ireturn, 1) := by decide +kernel
theorem zd_L_faults_0 : decode zc_L_faults 0 = .ok (.aload_n 3, 1) := by decide +kernel
theorem zd_L_faults_1 : decode zc_L_faults 1 = .ok (.iconst 0, 1) := by decide +kernel
theorem zd_L_faults_2 : decode zc_L_faults 2 = .ok (.aload_n 0, 1) := by decide +kernel
theorem zd_L_faults_3 : decode zc_L_faults 3 = .ok (.iload_n 1, 1) := by decide +kernel
theorem zd_L_faults_4 : decode zc_L_faults 4 = .ok (.iload_n 2, 1) := by decide +kernel
theorem zd_L_faults_5 : decode zc_L_faults 5 = .ok (.invokevirtual 17, 3) := by decide +kernel
theorem zd_L_faults_8 : decode zc_L_faults 8 = .ok (.ifCond .eq 7, 3) := by decide +kernel
theorem zd_L_faults_11 : decode zc_L_faults 11 = .ok (.lconst 1, 1) := by decide +kernel
theorem zd_L_faults_12 : decode zc_L_faults 12 = .ok (.goto 4, 3) := by decide +kernel
theorem zd_L_faults_15 : decode zc_L_faults 15 = .ok (.lconst 0, 1) := by decide +kernel
theorem zd_L_faults_16 : decode zc_L_faults 16 = .ok (.lastore, 1) := by decide +kernel
theorem zd_L_faults_17 : decode zc_L_faults 17 = .ok (.goto 11, 3) := by decide +kernel
theorem zd_L_faults_20 : decode zc_L_faults 20 = .ok (.astore 4, 2) := by decide +kernel
theorem zd_L_faults_22 : decode zc_L_faults 22 = .ok (.iconst 1, 1) := by decide +kernel
theorem zd_L_faults_23 : decode zc_L_faults 23 = .ok (.ireturn, 1) := by decide +kernel
theorem zd_L_faults_24 : decode zc_L_faults 24 = .ok (.astore 4, 2) := by decide +kernel
theorem zd_L_faults_26 : decode zc_L_faults 26 = .ok (.iconst 2, 1) := by decide +kernel
theorem zd_L_faults_27 : decode zc_L_faults 27 = .ok (.ireturn, 1) := by decide +kernel
theorem zd_L_faults_28 : decode zc_L_faults 28 = .ok (.iconst 0, 1) := by decide +kernel
theorem zd_L_faults_29 : decode zc_L_faults 29 = .ok (.ireturn, 1) := by decide +kernel
theorem zd_L_run_0 : decode zc_L_run 0 = .ok (.aload 5, 2) := by decide +kernel
theorem zd_L_run_2 : decode zc_L_run 2 = .ok (.iconst 0, 1) := by decide +kernel
theorem zd_L_run_3 : decode zc_L_run 3 = .ok (.aload_n 0, 1) := by decide +kernel
theorem zd_L_run_4 : decode zc_L_run 4 = .ok (.iload_n 1, 1) := by decide +kernel
theorem zd_L_run_5 : decode zc_L_run 5 = .ok (.lload_n 2, 1) := by decide +kernel
theorem zd_L_run_6 : decode zc_L_run 6 = .ok (.iload 4, 2) := by decide +kernel
theorem zd_L_run_8 : decode zc_L_run 8 = .ok (.invokevirtual 21, 3) := by decide +kernel
theorem zd_L_run_11 : decode zc_L_run 11 = .ok (.i2l, 1) := by decide +kernel
theorem zd_L_run_12 : decode zc_L_run 12 = .ok (.lastore, 1) := by decide +kernel
theorem zd_L_run_13 : decode zc_L_run 13 = .ok (.goto 7, 3) := by decide +kernel
theorem zd_L_run_16 : decode zc_L_run 16 = .ok (.astore 6, 2) := by decide +kernel
theorem zd_L_run_18 : decode zc_L_run 18 = .ok (.iconst 1, 1) := by decide +kernel
theorem zd_L_run_19 : decode zc_L_run 19 = .ok (.ireturn, 1) := by decide +kernel
theorem zd_L_run_20 : decode zc_L_run 20 = .ok (.iconst 0, 1) := by decide +kernel
theorem zd_L_run_21 : decode zc_L_run 21 = .ok (.ireturn, 1) := by decide +kernel
theorem zd_L_answer_0 : decode zc_L_answer 0 = .ok (.aload_n 1, 1) := by decide +kernel
theorem zd_L_answer_1 : decode zc_L_answer 1 = .ok (.iconst 0, 1) := by decide +kernel
theorem zd_L_answer_2 : decode zc_L_answer 2 = .ok (.aload_n 0, 1) := by decide +kernel
theorem zd_L_answer_3 : decode zc_L_answer 3 = .ok (.invokevirtual 25, 3) := by decide +kernel
theorem zd_L_answer_6 : decode zc_L_answer 6 = .ok (.lastore, 1) := by decide +kernel
theorem zd_L_answer_7 : decode zc_L_answer 7 = .ok (.goto 6, 3) := by decide +kernel
theorem zd_L_answer_10 : decode zc_L_answer 10 = .ok (.astore_n 2, 1) := by decide +kernel
theorem zd_L_answer_11 : decode zc_L_answer 11 = .ok (.iconst 1, 1) := by decide +kernel
theorem zd_L_answer_12 : decode zc_L_answer 12 = .ok (.ireturn, 1) := by decide +kernel
theorem zd_L_answer_13 : decode zc_L_answer 13 = .ok (.iconst 0, 1) := by decide +kernel
theorem zd_L_answer_14 : decode zc_L_answer 14 = .ok (.ireturn, 1) := by decide +kernel
theorem zd_L_ticks_0 : decode zc_L_ticks 0 = .ok (.aload_n 2, 1) := by decide +kernel
theorem zd_L_ticks_1 : decode zc_L_ticks 1 = .ok (.iconst 0, 1) := by decide +kernel
theorem zd_L_ticks_2 : decode zc_L_ticks 2 = .ok (.aload_n 0, 1) := by decide +kernel
theorem zd_L_ticks_3 : decode zc_L_ticks 3 = .ok (.iload_n 1, 1) := by decide +kernel
theorem zd_L_ticks_4 : decode zc_L_ticks 4 = .ok (.invokevirtual 31, 3) := by decide +kernel
theorem zd_L_ticks_7 : decode zc_L_ticks 7 = .ok (.i2l, 1) := by decide +kernel
theorem zd_L_ticks_8 : decode zc_L_ticks 8 = .ok (.lastore, 1) := by decide +kernel
theorem zd_L_ticks_9 : decode zc_L_ticks 9 = .ok (.goto 6, 3) := by decide +kernel
theorem zd_L_ticks_12 : decode zc_L_ticks 12 = .ok (.astore_n 3, 1) := by decide +kernel
theorem zd_L_ticks_13 : decode zc_L_ticks 13 = .ok (.iconst 1, 1) := by decide +kernel
theorem zd_L_ticks_14 : decode zc_L_ticks 14 = .ok (.ireturn, 1) := by decide +kernel
theorem zd_L_ticks_15 : decode zc_L_ticks 15 = .ok (.iconst 0, 1) := by decide +kernel
theorem zd_L_ticks_16 : decode zc_L_ticks 16 = .ok (.ireturn, 1) := by decide +kernel
theorem zd_L_worked_0 : decode zc_L_worked 0 = .ok (.aload_n 2, 1) := by decide +kernel
theorem zd_L_worked_1 : decode zc_L_worked 1 = .ok (.iconst 0, 1) := by decide +kernel
theorem zd_L_worked_2 : decode zc_L_worked 2 = .ok (.aload_n 0, 1) := by decide +kernel
theorem zd_L_worked_3 : decode zc_L_worked 3 = .ok (.iload_n 1, 1) := by decide +kernel
theorem zd_L_worked_4 : decode zc_L_worked 4 = .ok (.invokevirtual 35, 3) := by decide +kernel
theorem zd_L_worked_7 : decode zc_L_worked 7 = .ok (.i2l, 1) := by decide +kernel
theorem zd_L_worked_8 : decode zc_L_worked 8 = .ok (.lastore, 1) := by decide +kernel
theorem zd_L_worked_9 : decode zc_L_worked 9 = .ok (.goto 9, 3) := by decide +kernel
theorem zd_L_worked_12 : decode zc_L_worked 12 = .ok (.astore_n 3, 1) := by decide +kernel
theorem zd_L_worked_13 : decode zc_L_worked 13 = .ok (.iconst 1, 1) := by decide +kernel
theorem zd_L_worked_14 : decode zc_L_worked 14 = .ok (.ireturn, 1) := by decide +kernel
theorem zd_L_worked_15 : decode zc_L_worked 15 = .ok (.astore_n 3, 1) := by decide +kernel
theorem zd_L_worked_16 : decode zc_L_worked 16 = .ok (.iconst 2, 1) := by decide +kernel
theorem zd_L_worked_17 : decode zc_L_worked 17 = .ok (.ireturn, 1) := by decide +kernel
theorem zd_L_worked_18 : decode zc_L_worked 18 = .ok (.iconst 0, 1) := by decide +kernel
theorem zd_L_worked_19 : decode zc_L_worked 19 = .ok (.ireturn, 1) := by decide +kernel
theorem zd_L_done_0 : decode zc_L_done 0 = .ok (.aload_n 2, 1) := by decide +kernel
theorem zd_L_done_1 : decode zc_L_done 1 = .ok (.iconst 0, 1) := by decide +kernel
theorem zd_L_done_2 : decode zc_L_done 2 = .ok (.aload_n 0, 1) := by decide +kernel
theorem zd_L_done_3 : decode zc_L_done 3 = .ok (.iload_n 1, 1) := by decide +kernel
theorem zd_L_done_4 : decode zc_L_done 4 = .ok (.invokevirtual 38, 3) := by decide +kernel
theorem zd_L_done_7 : decode zc_L_done 7 = .ok (.i2l, 1) := by decide +kernel
theorem zd_L_done_8 : decode zc_L_done 8 = .ok (.lastore, 1) := by decide +kernel
theorem zd_L_done_9 : decode zc_L_done 9 = .ok (.goto 9, 3) := by decide +kernel
theorem zd_L_done_12 : decode zc_L_done 12 = .ok (.astore_n 3, 1) := by decide +kernel
theorem zd_L_done_13 : decode zc_L_done 13 = .ok (.iconst 1, 1) := by decide +kernel
theorem zd_L_done_14 : decode zc_L_done 14 = .ok (.ireturn, 1) := by decide +kernel
theorem zd_L_done_15 : decode zc_L_done 15 = .ok (.astore_n 3, 1) := by decide +kernel
theorem zd_L_done_16 : decode zc_L_done 16 = .ok (.iconst 2, 1) := by decide +kernel
theorem zd_L_done_17 : decode zc_L_done 17 = .ok (.ireturn, 1) := by decide +kernel
theorem zd_L_done_18 : decode zc_L_done 18 = .ok (.iconst 0, 1) := by decide +kernel
theorem zd_L_done_19 : decode zc_L_done 19 = .ok (.ireturn, 1) := by decide +kernel
theorem zd_L_by_0 : decode zc_L_by 0 = .ok (.aload_n 2, 1) := by decide +kernel
theorem zd_L_by_1 : decode zc_L_by 1 = .ok (.iconst 0, 1) := by decide +kernel
theorem zd_L_by_2 : decode zc_L_by 2 = .ok (.aload_n 0, 1) := by decide +kernel
theorem zd_L_by_3 : decode zc_L_by 3 = .ok (.iload_n 1, 1) := by decide +kernel
theorem zd_L_by_4 : decode zc_L_by 4 = .ok (.invokevirtual 41, 3) := by decide +kernel
theorem zd_L_by_7 : decode zc_L_by 7 = .ok (.i2l, 1) := by decide +kernel
theorem zd_L_by_8 : decode zc_L_by 8 = .ok (.lastore, 1) := by decide +kernel
theorem zd_L_by_9 : decode zc_L_by 9 = .ok (.goto 9, 3) := by decide +kernel
theorem zd_L_by_12 : decode zc_L_by 12 = .ok (.astore_n 3, 1) := by decide +kernel
theorem zd_L_by_13 : decode zc_L_by 13 = .ok (.iconst 1, 1) := by decide +kernel
theorem zd_L_by_14 : decode zc_L_by 14 = .ok (.ireturn, 1) := by decide +kernel
theorem zd_L_by_15 : decode zc_L_by 15 = .ok (.astore_n 3, 1) := by decide +kernel
theorem zd_L_by_16 : decode zc_L_by 16 = .ok (.iconst 2, 1) := by decide +kernel
theorem zd_L_by_17 : decode zc_L_by 17 = .ok (.ireturn, 1) := by decide +kernel
theorem zd_L_by_18 : decode zc_L_by 18 = .ok (.iconst 0, 1) := by decide +kernel
theorem zd_L_by_19 : decode zc_L_by 19 = .ok (.ireturn, 1) := by decide +kernel
theorem zd_L_failed_0 : decode zc_L_failed 0 = .ok (.aload_n 2, 1) := by decide +kernel
theorem zd_L_failed_1 : decode zc_L_failed 1 = .ok (.iconst 0, 1) := by decide +kernel
theorem zd_L_failed_2 : decode zc_L_failed 2 = .ok (.aload_n 0, 1) := by decide +kernel
theorem zd_L_failed_3 : decode zc_L_failed 3 = .ok (.iload_n 1, 1) := by decide +kernel
theorem zd_L_failed_4 : decode zc_L_failed 4 = .ok (.invokevirtual 44, 3) := by decide +kernel
theorem zd_L_failed_7 : decode zc_L_failed 7 = .ok (.i2l, 1) := by decide +kernel
theorem zd_L_failed_8 : decode zc_L_failed 8 = .ok (.lastore, 1) := by decide +kernel
theorem zd_L_failed_9 : decode zc_L_failed 9 = .ok (.goto 9, 3) := by decide +kernel
theorem zd_L_failed_12 : decode zc_L_failed 12 = .ok (.astore_n 3, 1) := by decide +kernel
theorem zd_L_failed_13 : decode zc_L_failed 13 = .ok (.iconst 1, 1) := by decide +kernel
theorem zd_L_failed_14 : decode zc_L_failed 14 = .ok (.ireturn, 1) := by decide +kernel
theorem zd_L_failed_15 : decode zc_L_failed 15 = .ok (.astore_n 3, 1) := by decide +kernel
theorem zd_L_failed_16 : decode zc_L_failed 16 = .ok (.iconst 2, 1) := by decide +kernel
theorem zd_L_failed_17 : decode zc_L_failed 17 = .ok (.ireturn, 1) := by decide +kernel
theorem zd_L_failed_18 : decode zc_L_failed 18 = .ok (.iconst 0, 1) := by decide +kernel
theorem zd_L_failed_19 : decode zc_L_failed 19 = .ok (.ireturn, 1) := by decide +kernel
theorem zd_L_at_0 : decode zc_L_at 0 = .ok (.aload_n 2, 1) := by decide +kernel
theorem zd_L_at_1 : decode zc_L_at 1 = .ok (.iconst 0, 1) := by decide +kernel
theorem zd_L_at_2 : decode zc_L_at 2 = .ok (.aload_n 0, 1) := by decide +kernel
theorem zd_L_at_3 : decode zc_L_at 3 = .ok (.iload_n 1, 1) := by decide +kernel
theorem zd_L_at_4 : decode zc_L_at 4 = .ok (.invokevirtual 47, 3) := by decide +kernel
theorem zd_L_at_7 : decode zc_L_at 7 = .ok (.i2l, 1) := by decide +kernel
theorem zd_L_at_8 : decode zc_L_at 8 = .ok (.lastore, 1) := by decide +kernel
theorem zd_L_at_9 : decode zc_L_at 9 = .ok (.goto 9, 3) := by decide +kernel
theorem zd_L_at_12 : decode zc_L_at 12 = .ok (.astore_n 3, 1) := by decide +kernel
theorem zd_L_at_13 : decode zc_L_at 13 = .ok (.iconst 1, 1) := by decide +kernel
theorem zd_L_at_14 : decode zc_L_at 14 = .ok (.ireturn, 1) := by decide +kernel
theorem zd_L_at_15 : decode zc_L_at 15 = .ok (.astore_n 3, 1) := by decide +kernel
theorem zd_L_at_16 : decode zc_L_at 16 = .ok (.iconst 2, 1) := by decide +kernel
theorem zd_L_at_17 : decode zc_L_at 17 = .ok (.ireturn, 1) := by decide +kernel
theorem zd_L_at_18 : decode zc_L_at 18 = .ok (.iconst 0, 1) := by decide +kernel
theorem zd_L_at_19 : decode zc_L_at 19 = .ok (.ireturn, 1) := by decide +kernel
theorem zd_F_fill_0 : decode zc_F_fill 0 = .ok (.iconst 0, 1) := by decide +kernel
theorem zd_F_fill_1 : decode zc_F_fill 1 = .ok (.istore_n 2, 1) := by decide +kernel
theorem zd_F_fill_2 : decode zc_F_fill 2 = .ok (.aload_n 0, 1) := by decide +kernel
theorem zd_F_fill_3 : decode zc_F_fill 3 = .ok (.arraylength, 1) := by decide +kernel
theorem zd_F_fill_4 : decode zc_F_fill 4 = .ok (.istore_n 3, 1) := by decide +kernel
theorem zd_F_fill_5 : decode zc_F_fill 5 = .ok (.iload_n 2, 1) := by decide +kernel
theorem zd_F_fill_6 : decode zc_F_fill 6 = .ok (.iload_n 3, 1) := by decide +kernel
theorem zd_F_fill_7 : decode zc_F_fill 7 = .ok (.if_icmp .ge 13, 3) := by decide +kernel
theorem zd_F_fill_10 : decode zc_F_fill 10 = .ok (.aload_n 0, 1) := by decide +kernel
theorem zd_F_fill_11 : decode zc_F_fill 11 = .ok (.iload_n 2, 1) := by decide +kernel
theorem zd_F_fill_12 : decode zc_F_fill 12 = .ok (.iload_n 1, 1) := by decide +kernel
theorem zd_F_fill_13 : decode zc_F_fill 13 = .ok (.iastore, 1) := by decide +kernel
theorem zd_F_fill_14 : decode zc_F_fill 14 = .ok (.iinc 2 1, 3) := by decide +kernel
theorem zd_F_fill_17 : decode zc_F_fill 17 = .ok (.goto (-12), 3) := by decide +kernel
theorem zd_F_fill_20 : decode zc_F_fill 20 = .ok (.return_, 1) := by decide +kernel
