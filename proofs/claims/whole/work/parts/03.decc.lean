theorem d_F_init_0 : decode c_F_init 0 = .ok (.aload_n 0, 1) := by decide +kernel
theorem d_F_init_1 : decode c_F_init 1 = .ok (.invokespecial 1, 3) := by decide +kernel
theorem d_F_init_4 : decode c_F_init 4 = .ok (.aload_n 0, 1) := by decide +kernel
theorem d_F_init_5 : decode c_F_init 5 = .ok (.bipush 8, 2) := by decide +kernel
theorem d_F_init_7 : decode c_F_init 7 = .ok (.anewarray 9, 3) := by decide +kernel
theorem d_F_init_10 : decode c_F_init 10 = .ok (.putfield 11, 3) := by decide +kernel
theorem d_F_init_13 : decode c_F_init 13 = .ok (.aload_n 0, 1) := by decide +kernel
theorem d_F_init_14 : decode c_F_init 14 = .ok (.bipush 8, 2) := by decide +kernel
theorem d_F_init_16 : decode c_F_init 16 = .ok (.newarray .int, 2) := by decide +kernel
theorem d_F_init_18 : decode c_F_init 18 = .ok (.putfield 15, 3) := by decide +kernel
theorem d_F_init_21 : decode c_F_init 21 = .ok (.aload_n 0, 1) := by decide +kernel
theorem d_F_init_22 : decode c_F_init 22 = .ok (.bipush 8, 2) := by decide +kernel
theorem d_F_init_24 : decode c_F_init 24 = .ok (.newarray .boolean, 2) := by decide +kernel
theorem d_F_init_26 : decode c_F_init 26 = .ok (.putfield 19, 3) := by decide +kernel
theorem d_F_init_29 : decode c_F_init 29 = .ok (.aload_n 0, 1) := by decide +kernel
theorem d_F_init_30 : decode c_F_init 30 = .ok (.new 23, 3) := by decide +kernel
theorem d_F_init_33 : decode c_F_init 33 = .ok (.dup, 1) := by decide +kernel
theorem d_F_init_34 : decode c_F_init 34 = .ok (.invokespecial 25, 3) := by decide +kernel
theorem d_F_init_37 : decode c_F_init 37 = .ok (.putfield 26, 3) := by decide +kernel
theorem d_F_init_40 : decode c_F_init 40 = .ok (.return_, 1) := by decide +kernel
theorem d_F_relay_0 : decode c_F_relay 0 = .ok (.aload_n 0, 1) := by decide +kernel
theorem d_F_relay_1 : decode c_F_relay 1 = .ok (.getfield 30, 3) := by decide +kernel
theorem d_F_relay_4 : decode c_F_relay 4 = .ok (.bipush 8, 2) := by decide +kernel
theorem d_F_relay_6 : decode c_F_relay 6 = .ok (.if_icmp .ge 18, 3) := by decide +kernel
theorem d_F_relay_9 : decode c_F_relay 9 = .ok (.aload_n 0, 1) := by decide +kernel
theorem d_F_relay_10 : decode c_F_relay 10 = .ok (.getfield 34, 3) := by decide +kernel
theorem d_F_relay_13 : decode c_F_relay 13 = .ok (.ifCond .ne 11, 3) := by decide +kernel
theorem d_F_relay_16 : decode c_F_relay 16 = .ok (.aload_n 0, 1) := by decide +kernel
theorem d_F_relay_17 : decode c_F_relay 17 = .ok (.iload_n 1, 1) := by decide +kernel
theorem d_F_relay_18 : decode c_F_relay 18 = .ok (.invokevirtual 37, 3) := by decide +kernel
theorem d_F_relay_21 : decode c_F_relay 21 = .ok (.ifCond .ne 5, 3) := by decide +kernel
theorem d_F_relay_24 : decode c_F_relay 24 = .ok (.iconst (-1), 1) := by decide +kernel
theorem d_F_relay_25 : decode c_F_relay 25 = .ok (.ireturn, 1) := by decide +kernel
theorem d_F_relay_26 : decode c_F_relay 26 = .ok (.aload_n 0, 1) := by decide +kernel
theorem d_F_relay_27 : decode c_F_relay 27 = .ok (.getfield 11, 3) := by decide +kernel
theorem d_F_relay_30 : decode c_F_relay 30 = .ok (.aload_n 0, 1) := by decide +kernel
theorem d_F_relay_31 : decode c_F_relay 31 = .ok (.getfield 30, 3) := by decide +kernel
theorem d_F_relay_34 : decode c_F_relay 34 = .ok (.new 9, 3) := by decide +kernel
theorem d_F_relay_37 : decode c_F_relay 37 = .ok (.dup, 1) := by decide +kernel
theorem d_F_relay_38 : decode c_F_relay 38 = .ok (.iload_n 1, 1) := by decide +kernel
theorem d_F_relay_39 : decode c_F_relay 39 = .ok (.invokespecial 41, 3) := by decide +kernel
theorem d_F_relay_42 : decode c_F_relay 42 = .ok (.aastore, 1) := by decide +kernel
theorem d_F_relay_43 : decode c_F_relay 43 = .ok (.aload_n 0, 1) := by decide +kernel
theorem d_F_relay_44 : decode c_F_relay 44 = .ok (.dup, 1) := by decide +kernel
theorem d_F_relay_45 : decode c_F_relay 45 = .ok (.getfield 30, 3) := by decide +kernel
theorem d_F_relay_48 : decode c_F_relay 48 = .ok (.iconst 1, 1) := by decide +kernel
theorem d_F_relay_49 : decode c_F_relay 49 = .ok (.iadd, 1) := by decide +kernel
theorem d_F_relay_50 : decode c_F_relay 50 = .ok (.putfield 30, 3) := by decide +kernel
theorem d_F_relay_53 : decode c_F_relay 53 = .ok (.aload_n 0, 1) := by decide +kernel
theorem d_F_relay_54 : decode c_F_relay 54 = .ok (.getfield 30, 3) := by decide +kernel
theorem d_F_relay_57 : decode c_F_relay 57 = .ok (.iconst 1, 1) := by decide +kernel
theorem d_F_relay_58 : decode c_F_relay 58 = .ok (.isub, 1) := by decide +kernel
theorem d_F_relay_59 : decode c_F_relay 59 = .ok (.ireturn, 1) := by decide +kernel
theorem d_F_settings_0 : decode c_F_settings 0 = .ok (.aload_n 0, 1) := by decide +kernel
theorem d_F_settings_1 : decode c_F_settings 1 = .ok (.iload_n 1, 1) := by decide +kernel
theorem d_F_settings_2 : decode c_F_settings 2 = .ok (.invokevirtual 44, 3) := by decide +kernel
theorem d_F_settings_5 : decode c_F_settings 5 = .ok (.ifCond .eq 35, 3) := by decide +kernel
theorem d_F_settings_8 : decode c_F_settings 8 = .ok (.iload_n 2, 1) := by decide +kernel
theorem d_F_settings_9 : decode c_F_settings 9 = .ok (.iconst 0, 1) := by decide +kernel
theorem d_F_settings_10 : decode c_F_settings 10 = .ok (.iconst 2, 1) := by decide +kernel
theorem d_F_settings_11 : decode c_F_settings 11 = .ok (.invokestatic 47, 3) := by decide +kernel
theorem d_F_settings_14 : decode c_F_settings 14 = .ok (.ifCond .eq 26, 3) := by decide +kernel
theorem d_F_settings_17 : decode c_F_settings 17 = .ok (.iload_n 3, 1) := by decide +kernel
theorem d_F_settings_18 : decode c_F_settings 18 = .ok (.iconst 1, 1) := by decide +kernel
theorem d_F_settings_19 : decode c_F_settings 19 = .ok (.sipush 5000, 3) := by decide +kernel
theorem d_F_settings_22 : decode c_F_settings 22 = .ok (.invokestatic 47, 3) := by decide +kernel
theorem d_F_settings_25 : decode c_F_settings 25 = .ok (.ifCond .eq 15, 3) := by decide +kernel
theorem d_F_settings_28 : decode c_F_settings 28 = .ok (.iload 4, 2) := by decide +kernel
theorem d_F_settings_30 : decode c_F_settings 30 = .ok (.iconst 1, 1) := by decide +kernel
theorem d_F_settings_31 : decode c_F_settings 31 = .ok (.sipush 1000, 3) := by decide +kernel
theorem d_F_settings_34 : decode c_F_settings 34 = .ok (.invokestatic 47, 3) := by decide +kernel
theorem d_F_settings_37 : decode c_F_settings 37 = .ok (.ifCond .ne 5, 3) := by decide +kernel
theorem d_F_settings_40 : decode c_F_settings 40 = .ok (.iconst 0, 1) := by decide +kernel
theorem d_F_settings_41 : decode c_F_settings 41 = .ok (.ireturn, 1) := by decide +kernel
theorem d_F_settings_42 : decode c_F_settings 42 = .ok (.aload_n 0, 1) := by decide +kernel
theorem d_F_settings_43 : decode c_F_settings 43 = .ok (.getfield 11, 3) := by decide +kernel
theorem d_F_settings_46 : decode c_F_settings 46 = .ok (.iload_n 1, 1) := by decide +kernel
theorem d_F_settings_47 : decode c_F_settings 47 = .ok (.aaload, 1) := by decide +kernel
theorem d_F_settings_48 : decode c_F_settings 48 = .ok (.getfield 51, 3) := by decide +kernel
theorem d_F_settings_51 : decode c_F_settings 51 = .ok (.iload_n 2, 1) := by decide +kernel
theorem d_F_settings_52 : decode c_F_settings 52 = .ok (.iload_n 3, 1) := by decide +kernel
theorem d_F_settings_53 : decode c_F_settings 53 = .ok (.iload 4, 2) := by decide +kernel
theorem d_F_settings_55 : decode c_F_settings 55 = .ok (.invokevirtual 55, 3) := by decide +kernel
theorem d_F_settings_58 : decode c_F_settings 58 = .ok (.iconst 1, 1) := by decide +kernel
theorem d_F_settings_59 : decode c_F_settings 59 = .ok (.ireturn, 1) := by decide +kernel
theorem d_F_options_0 : decode c_F_options 0 = .ok (.aload_n 0, 1) := by decide +kernel
theorem d_F_options_1 : decode c_F_options 1 = .ok (.iload_n 1, 1) := by decide +kernel
theorem d_F_options_2 : decode c_F_options 2 = .ok (.invokevirtual 44, 3) := by decide +kernel
theorem d_F_options_5 : decode c_F_options 5 = .ok (.ifCond .eq 23, 3) := by decide +kernel
theorem d_F_options_8 : decode c_F_options 8 = .ok (.iload_n 3, 1) := by decide +kernel
theorem d_F_options_9 : decode c_F_options 9 = .ok (.iconst 0, 1) := by decide +kernel
theorem d_F_options_10 : decode c_F_options 10 = .ok (.iconst 3, 1) := by decide +kernel
theorem d_F_options_11 : decode c_F_options 11 = .ok (.invokestatic 47, 3) := by decide +kernel
theorem d_F_options_14 : decode c_F_options 14 = .ok (.ifCond .eq 14, 3) := by decide +kernel
theorem d_F_options_17 : decode c_F_options 17 = .ok (.iload 4, 2) := by decide +kernel
theorem d_F_options_19 : decode c_F_options 19 = .ok (.iconst 1, 1) := by decide +kernel
theorem d_F_options_20 : decode c_F_options 20 = .ok (.bipush 50, 2) := by decide +kernel
theorem d_F_options_22 : decode c_F_options 22 = .ok (.invokestatic 47, 3) := by decide +kernel
theorem d_F_options_25 : decode c_F_options 25 = .ok (.ifCond .ne 5, 3) := by decide +kernel
theorem d_F_options_28 : decode c_F_options 28 = .ok (.iconst 0, 1) := by decide +kernel
theorem d_F_options_29 : decode c_F_options 29 = .ok (.ireturn, 1) := by decide +kernel
theorem d_F_options_30 : decode c_F_options 30 = .ok (.aload_n 0, 1) := by decide +kernel
theorem d_F_options_31 : decode c_F_options 31 = .ok (.getfield 11, 3) := by decide +kernel
theorem d_F_options_34 : decode c_F_options 34 = .ok (.iload_n 1, 1) := by decide +kernel
theorem d_F_options_35 : decode c_F_options 35 = .ok (.aaload, 1) := by decide +kernel
theorem d_F_options_36 : decode c_F_options 36 = .ok (.astore 5, 2) := by decide +kernel
theorem d_F_options_38 : decode c_F_options 38 = .ok (.aload 5, 2) := by decide +kernel
theorem d_F_options_40 : decode c_F_options 40 = .ok (.iload_n 2, 1) := by decide +kernel
theorem d_F_options_41 : decode c_F_options 41 = .ok (.putfield 61, 3) := by decide +kernel
theorem d_F_options_44 : decode c_F_options 44 = .ok (.aload 5, 2) := by decide +kernel
theorem d_F_options_46 : decode c_F_options 46 = .ok (.iload_n 3, 1) := by decide +kernel
theorem d_F_options_47 : decode c_F_options 47 = .ok (.putfield 65, 3) := by decide +kernel
theorem d_F_options_50 : decode c_F_options 50 = .ok (.aload 5, 2) := by decide +kernel
theorem d_F_options_52 : decode c_F_options 52 = .ok (.iload 4, 2) := by decide +kernel
theorem d_F_options_54 : decode c_F_options 54 = .ok (.putfield 68, 3) := by decide +kernel
theorem d_F_options_57 : decode c_F_options 57 = .ok (.iconst 1, 1) := by decide +kernel
theorem d_F_options_58 : decode c_F_options 58 = .ok (.ireturn, 1) := by decide +kernel
theorem d_F_load_0 : decode c_F_load 0 = .ok (.aload_n 0, 1) := by decide +kernel
theorem d_F_load_1 : decode c_F_load 1 = .ok (.iload_n 1, 1) := by decide +kernel
theorem d_F_load_2 : decode c_F_load 2 = .ok (.invokevirtual 44, 3) := by decide +kernel
theorem d_F_load_5 : decode c_F_load 5 = .ok (.ifCond .eq 14, 3) := by decide +kernel
theorem d_F_load_8 : decode c_F_load 8 = .ok (.iload_n 2, 1) := by decide +kernel
theorem d_F_load_9 : decode c_F_load 9 = .ok (.iconst 0, 1) := by decide +kernel
theorem d_F_load_10 : decode c_F_load 10 = .ok (.sipush 2000, 3) := by decide +kernel
theorem d_F_load_13 : decode c_F_load 13 = .ok (.invokestatic 47, 3) := by decide +kernel
theorem d_F_load_16 : decode c_F_load 16 = .ok (.ifCond .ne 5, 3) := by decide +kernel
theorem d_F_load_19 : decode c_F_load 19 = .ok (.iconst 0, 1) := by decide +kernel
theorem d_F_load_20 : decode c_F_load 20 = .ok (.ireturn, 1) := by decide +kernel
theorem d_F_load_21 : decode c_F_load 21 = .ok (.aload_n 0, 1) := by decide +kernel
theorem d_F_load_22 : decode c_F_load 22 = .ok (.getfield 11, 3) := by decide +kernel
theorem d_F_load_25 : decode c_F_load 25 = .ok (.iload_n 1, 1) := by decide +kernel
theorem d_F_load_26 : decode c_F_load 26 = .ok (.aaload, 1) := by decide +kernel
theorem d_F_load_27 : decode c_F_load 27 = .ok (.iload_n 2, 1) := by decide +kernel
theorem d_F_load_28 : decode c_F_load 28 = .ok (.putfield 71, 3) := by decide +kernel
theorem d_F_load_31 : decode c_F_load 31 = .ok (.iconst 1, 1) := by decide +kernel
theorem d_F_load_32 : decode c_F_load 32 = .ok (.ireturn, 1) := by decide +kernel
theorem d_F_fault_0 : decode c_F_fault 0 = .ok (.aload_n 0, 1) := by decide +kernel
theorem d_F_fault_1 : decode c_F_fault 1 = .ok (.iload_n 1, 1) := by decide +kernel
theorem d_F_fault_2 : decode c_F_fault 2 = .ok (.invokevirtual 44, 3) := by decide +kernel
theorem d_F_fault_5 : decode c_F_fault 5 = .ok (.ifCond .eq 14, 3) := by decide +kernel
theorem d_F_fault_8 : decode c_F_fault 8 = .ok (.iload_n 2, 1) := by decide +kernel
theorem d_F_fault_9 : decode c_F_fault 9 = .ok (.iconst 0, 1) := by decide +kernel
theorem d_F_fault_10 : decode c_F_fault 10 = .ok (.sipush 20000, 3) := by decide +kernel
theorem d_F_fault_13 : decode c_F_fault 13 = .ok (.invokestatic 47, 3) := by decide +kernel
theorem d_F_fault_16 : decode c_F_fault 16 = .ok (.ifCond .ne 5, 3) := by decide +kernel
theorem d_F_fault_19 : decode c_F_fault 19 = .ok (.iconst 0, 1) := by decide +kernel
theorem d_F_fault_20 : decode c_F_fault 20 = .ok (.ireturn, 1) := by decide +kernel
theorem d_F_fault_21 : decode c_F_fault 21 = .ok (.aload_n 0, 1) := by decide +kernel
theorem d_F_fault_22 : decode c_F_fault 22 = .ok (.getfield 11, 3) := by decide +kernel
theorem d_F_fault_25 : decode c_F_fault 25 = .ok (.iload_n 1, 1) := by decide +kernel
theorem d_F_fault_26 : decode c_F_fault 26 = .ok (.aaload, 1) := by decide +kernel
theorem d_F_fault_27 : decode c_F_fault 27 = .ok (.iload_n 2, 1) := by decide +kernel
theorem d_F_fault_28 : decode c_F_fault 28 = .ok (.putfield 74, 3) := by decide +kernel
theorem d_F_fault_31 : decode c_F_fault 31 = .ok (.iconst 1, 1) := by decide +kernel
theorem d_F_fault_32 : decode c_F_fault 32 = .ok (.ireturn, 1) := by decide +kernel
theorem d_F_jam_0 : decode c_F_jam 0 = .ok (.aload_n 0, 1) := by decide +kernel
theorem d_F_jam_1 : decode c_F_jam 1 = .ok (.iload_n 1, 1) := by decide +kernel
theorem d_F_jam_2 : decode c_F_jam 2 = .ok (.invokevirtual 44, 3) := by decide +kernel
theorem d_F_jam_5 : decode c_F_jam 5 = .ok (.ifCond .ne 5, 3) := by decide +kernel
theorem d_F_jam_8 : decode c_F_jam 8 = .ok (.iconst 0, 1) := by decide +kernel
theorem d_F_jam_9 : decode c_F_jam 9 = .ok (.ireturn, 1) := by decide +kernel
theorem d_F_jam_10 : decode c_F_jam 10 = .ok (.aload_n 0, 1) := by decide +kernel
theorem d_F_jam_11 : decode c_F_jam 11 = .ok (.getfield 11, 3) := by decide +kernel
theorem d_F_jam_14 : decode c_F_jam 14 = .ok (.iload_n 1, 1) := by decide +kernel
theorem d_F_jam_15 : decode c_F_jam 15 = .ok (.aaload, 1) := by decide +kernel
theorem d_F_jam_16 : decode c_F_jam 16 = .ok (.getfield 77, 3) := by decide +kernel
theorem d_F_jam_19 : decode c_F_jam 19 = .ok (.iload_n 2, 1) := by decide +kernel
theorem d_F_jam_20 : decode c_F_jam 20 = .ok (.putfield 81, 3) := by decide +kernel
theorem d_F_jam_23 : decode c_F_jam 23 = .ok (.iconst 1, 1) := by decide +kernel
theorem d_F_jam_24 : decode c_F_jam 24 = .ok (.ireturn, 1) := by decide +kernel
theorem d_F_line_0 : decode c_F_line 0 = .ok (.aload_n 0, 1) := by decide +kernel
theorem d_F_line_1 : decode c_F_line 1 = .ok (.iload_n 1, 1) := by decide +kernel
theorem d_F_line_2 : decode c_F_line 2 = .ok (.invokevirtual 44, 3) := by decide +kernel
theorem d_F_line_5 : decode c_F_line 5 = .ok (.ifCond .eq 13, 3) := by decide +kernel
theorem d_F_line_8 : decode c_F_line 8 = .ok (.iload_n 2, 1) := by decide +kernel
theorem d_F_line_9 : decode c_F_line 9 = .ok (.iconst 0, 1) := by decide +kernel
theorem d_F_line_10 : decode c_F_line 10 = .ok (.bipush 8, 2) := by decide +kernel
theorem d_F_line_12 : decode c_F_line 12 = .ok (.invokestatic 47, 3) := by decide +kernel
theorem d_F_line_15 : decode c_F_line 15 = .ok (.ifCond .ne 5, 3) := by decide +kernel
theorem d_F_line_18 : decode c_F_line 18 = .ok (.iconst 0, 1) := by decide +kernel
theorem d_F_line_19 : decode c_F_line 19 = .ok (.ireturn, 1) := by decide +kernel
theorem d_F_line_20 : decode c_F_line 20 = .ok (.aload_n 0, 1) := by decide +kernel
theorem d_F_line_21 : decode c_F_line 21 = .ok (.getfield 11, 3) := by decide +kernel
theorem d_F_line_24 : decode c_F_line 24 = .ok (.iload_n 1, 1) := by decide +kernel
theorem d_F_line_25 : decode c_F_line 25 = .ok (.aaload, 1) := by decide +kernel
theorem d_F_line_26 : decode c_F_line 26 = .ok (.getfield 86, 3) := by decide +kernel
theorem d_F_line_29 : decode c_F_line 29 = .ok (.iload_n 2, 1) := by decide +kernel
theorem d_F_line_30 : decode c_F_line 30 = .ok (.putfield 90, 3) := by decide +kernel
theorem d_F_line_33 : decode c_F_line 33 = .ok (.iconst 1, 1) := by decide +kernel
theorem d_F_line_34 : decode c_F_line 34 = .ok (.ireturn, 1) := by decide +kernel
theorem d_F_operate_0 : decode c_F_operate 0 = .ok (.aload_n 0, 1) := by decide +kernel
theorem d_F_operate_1 : decode c_F_operate 1 = .ok (.iload_n 1, 1) := by decide +kernel
theorem d_F_operate_2 : decode c_F_operate 2 = .ok (.invokevirtual 44, 3) := by decide +kernel
theorem d_F_operate_5 : decode c_F_operate 5 = .ok (.ifCond .ne 5, 3) := by decide +kernel
theorem d_F_operate_8 : decode c_F_operate 8 = .ok (.iconst 0, 1) := by decide +kernel
theorem d_F_operate_9 : decode c_F_operate 9 = .ok (.ireturn, 1) := by decide +kernel
theorem d_F_operate_10 : decode c_F_operate 10 = .ok (.aload_n 0, 1) := by decide +kernel
theorem d_F_operate_11 : decode c_F_operate 11 = .ok (.getfield 11, 3) := by decide +kernel
theorem d_F_operate_14 : decode c_F_operate 14 = .ok (.iload_n 1, 1) := by decide +kernel
theorem d_F_operate_15 : decode c_F_operate 15 = .ok (.aaload, 1) := by decide +kernel
theorem d_F_operate_16 : decode c_F_operate 16 = .ok (.getfield 77, 3) := by decide +kernel
theorem d_F_operate_19 : decode c_F_operate 19 = .ok (.iload_n 2, 1) := by decide +kernel
theorem d_F_operate_20 : decode c_F_operate 20 = .ok (.putfield 95, 3) := by decide +kernel
theorem d_F_operate_23 : decode c_F_operate 23 = .ok (.aload_n 0, 1) := by decide +kernel
theorem d_F_operate_24 : decode c_F_operate 24 = .ok (.getfield 11, 3) := by decide +kernel
theorem d_F_operate_27 : decode c_F_operate 27 = .ok (.iload_n 1, 1) := by decide +kernel
theorem d_F_operate_28 : decode c_F_operate 28 = .ok (.aaload, 1) := by decide +kernel
theorem d_F_operate_29 : decode c_F_operate 29 = .ok (.getfield 77, 3) := by decide +kernel
theorem d_F_operate_32 : decode c_F_operate 32 = .ok (.invokevirtual 98, 3) := by decide +kernel
theorem d_F_operate_35 : decode c_F_operate 35 = .ok (.iconst 1, 1) := by decide +kernel
theorem d_F_operate_36 : decode c_F_operate 36 = .ok (.ireturn, 1) := by decide +kernel
theorem d_F_run_0 : decode c_F_run 0 = .ok (.iload_n 1, 1) := by decide +kernel
theorem d_F_run_1 : decode c_F_run 1 = .ok (.iconst 1, 1) := by decide +kernel
theorem d_F_run_2 : decode c_F_run 2 = .ok (.bipush 20, 2) := by decide +kernel
theorem d_F_run_4 : decode c_F_run 4 = .ok (.invokestatic 47, 3) := by decide +kernel
theorem d_F_run_7 : decode c_F_run 7 = .ok (.ifCond .ne 5, 3) := by decide +kernel
theorem d_F_run_10 : decode c_F_run 10 = .ok (.iconst (-1), 1) := by decide +kernel
theorem d_F_run_11 : decode c_F_run 11 = .ok (.ireturn, 1) := by decide +kernel
theorem d_F_run_12 : decode c_F_run 12 = .ok (.iconst 0, 1) := by decide +kernel
theorem d_F_run_13 : decode c_F_run 13 = .ok (.istore_n 2, 1) := by decide +kernel
theorem d_F_run_14 : decode c_F_run 14 = .ok (.iload_n 2, 1) := by decide +kernel
theorem d_F_run_15 : decode c_F_run 15 = .ok (.iload_n 1, 1) := by decide +kernel
theorem d_F_run_16 : decode c_F_run 16 = .ok (.if_icmp .ge 13, 3) := by decide +kernel
theorem d_F_run_19 : decode c_F_run 19 = .ok (.aload_n 0, 1) := by decide +kernel
theorem d_F_run_20 : decode c_F_run 20 = .ok (.invokevirtual 101, 3) := by decide +kernel
theorem d_F_run_23 : decode c_F_run 23 = .ok (.iinc 2 1, 3) := by decide +kernel
theorem d_F_run_26 : decode c_F_run 26 = .ok (.goto (-12), 3) := by decide +kernel
theorem d_F_run_29 : decode c_F_run 29 = .ok (.aload_n 0, 1) := by decide +kernel
theorem d_F_run_30 : decode c_F_run 30 = .ok (.getfield 34, 3) := by decide +kernel
theorem d_F_run_33 : decode c_F_run 33 = .ok (.ireturn, 1) := by decide +kernel
theorem d_F_crash_0 : decode c_F_crash 0 = .ok (.iconst 0, 1) := by decide +kernel
theorem d_F_crash_1 : decode c_F_crash 1 = .ok (.istore_n 1, 1) := by decide +kernel
theorem d_F_crash_2 : decode c_F_crash 2 = .ok (.iload_n 1, 1) := by decide +kernel
theorem d_F_crash_3 : decode c_F_crash 3 = .ok (.aload_n 0, 1) := by decide +kernel
theorem d_F_crash_4 : decode c_F_crash 4 = .ok (.getfield 30, 3) := by decide +kernel
theorem d_F_crash_7 : decode c_F_crash 7 = .ok (.if_icmp .ge 45, 3) := by decide +kernel
theorem d_F_crash_10 : decode c_F_crash 10 = .ok (.aload_n 0, 1) := by decide +kernel
theorem d_F_crash_11 : decode c_F_crash 11 = .ok (.getfield 11, 3) := by decide +kernel
theorem d_F_crash_14 : decode c_F_crash 14 = .ok (.iload_n 1, 1) := by decide +kernel
theorem d_F_crash_15 : decode c_F_crash 15 = .ok (.aaload, 1) := by decide +kernel
theorem d_F_crash_16 : decode c_F_crash 16 = .ok (.getfield 51, 3) := by decide +kernel
theorem d_F_crash_19 : decode c_F_crash 19 = .ok (.invokevirtual 104, 3) := by decide +kernel
theorem d_F_crash_22 : decode c_F_crash 22 = .ok (.aload_n 0, 1) := by decide +kernel
theorem d_F_crash_23 : decode c_F_crash 23 = .ok (.getfield 11, 3) := by decide +kernel
theorem d_F_crash_26 : decode c_F_crash 26 = .ok (.iload_n 1, 1) := by decide +kernel
theorem d_F_crash_27 : decode c_F_crash 27 = .ok (.aaload, 1) := by decide +kernel
theorem d_F_crash_28 : decode c_F_crash 28 = .ok (.getfield 86, 3) := by decide +kernel
theorem d_F_crash_31 : decode c_F_crash 31 = .ok (.invokevirtual 105, 3) := by decide +kernel
theorem d_F_crash_34 : decode c_F_crash 34 = .ok (.aload_n 0, 1) := by decide +kernel
theorem d_F_crash_35 : decode c_F_crash 35 = .ok (.getfield 11, 3) := by decide +kernel
theorem d_F_crash_38 : decode c_F_crash 38 = .ok (.iload_n 1, 1) := by decide +kernel
theorem d_F_crash_39 : decode c_F_crash 39 = .ok (.aaload, 1) := by decide +kernel
theorem d_F_crash_40 : decode c_F_crash 40 = .ok (.getfield 77, 3) := by decide +kernel
theorem d_F_crash_43 : decode c_F_crash 43 = .ok (.invokevirtual 98, 3) := by decide +kernel
theorem d_F_crash_46 : decode c_F_crash 46 = .ok (.iinc 1 1, 3) := by decide +kernel
theorem d_F_crash_49 : decode c_F_crash 49 = .ok (.goto (-47), 3) := by decide +kernel
theorem d_F_crash_52 : decode c_F_crash 52 = .ok (.aload_n 0, 1) := by decide +kernel
theorem d_F_crash_53 : decode c_F_crash 53 = .ok (.getfield 26, 3) := by decide +kernel
theorem d_F_crash_56 : decode c_F_crash 56 = .ok (.invokevirtual 106, 3) := by decide +kernel
theorem d_F_crash_59 : decode c_F_crash 59 = .ok (.ireturn, 1) := by decide +kernel
theorem d_F_time_0 : decode c_F_time 0 = .ok (.aload_n 0, 1) := by decide +kernel
theorem d_F_time_1 : decode c_F_time 1 = .ok (.getfield 34, 3) := by decide +kernel
theorem d_F_time_4 : decode c_F_time 4 = .ok (.ireturn, 1) := by decide +kernel
theorem d_F_current_0 : decode c_F_current 0 = .ok (.aload_n 0, 1) := by decide +kernel
theorem d_F_current_1 : decode c_F_current 1 = .ok (.iload_n 1, 1) := by decide +kernel
theorem d_F_current_2 : decode c_F_current 2 = .ok (.invokevirtual 44, 3) := by decide +kernel
theorem d_F_current_5 : decode c_F_current 5 = .ok (.ifCond .ne 5, 3) := by decide +kernel
theorem d_F_current_8 : decode c_F_current 8 = .ok (.iconst (-1), 1) := by decide +kernel
theorem d_F_current_9 : decode c_F_current 9 = .ok (.ireturn, 1) := by decide +kernel
theorem d_F_current_10 : decode c_F_current 10 = .ok (.aload_n 0, 1) := by decide +kernel
theorem d_F_current_11 : decode c_F_current 11 = .ok (.invokevirtual 110, 3) := by decide +kernel
theorem d_F_current_14 : decode c_F_current 14 = .ok (.aload_n 0, 1) := by decide +kernel
theorem d_F_current_15 : decode c_F_current 15 = .ok (.getfield 15, 3) := by decide +kernel
theorem d_F_current_18 : decode c_F_current 18 = .ok (.iload_n 1, 1) := by decide +kernel
theorem d_F_current_19 : decode c_F_current 19 = .ok (.iaload, 1) := by decide +kernel
theorem d_F_current_20 : decode c_F_current 20 = .ok (.ireturn, 1) := by decide +kernel
theorem d_F_state_0 : decode c_F_state 0 = .ok (.aload_n 0, 1) := by decide +kernel
theorem d_F_state_1 : decode c_F_state 1 = .ok (.iload_n 1, 1) := by decide +kernel
theorem d_F_state_2 : decode c_F_state 2 = .ok (.invokevirtual 44, 3) := by decide +kernel
theorem d_F_state_5 : decode c_F_state 5 = .ok (.ifCond .ne 5, 3) := by decide +kernel
theorem d_F_state_8 : decode c_F_state 8 = .ok (.iconst (-1), 1) := by decide +kernel
theorem d_F_state_9 : decode c_F_state 9 = .ok (.ireturn, 1) := by decide +kernel
theorem d_F_state_10 : decode c_F_state 10 = .ok (.aload_n 0, 1) := by decide +kernel
theorem d_F_state_11 : decode c_F_state 11 = .ok (.getfield 11, 3) := by decide +kernel
theorem d_F_state_14 : decode c_F_state 14 = .ok (.iload_n 1, 1) := by decide +kernel
theorem d_F_state_15 : decode c_F_state 15 = .ok (.aaload, 1) := by decide +kernel
theorem d_F_state_16 : decode c_F_state 16 = .ok (.getfield 77, 3) := by decide +kernel
theorem d_F_state_19 : decode c_F_state 19 = .ok (.invokevirtual 113, 3) := by decide +kernel
theorem d_F_state_22 : decode c_F_state 22 = .ok (.istore_n 2, 1) := by decide +kernel
theorem d_F_state_23 : decode c_F_state 23 = .ok (.aload_n 0, 1) := by decide +kernel
theorem d_F_state_24 : decode c_F_state 24 = .ok (.getfield 11, 3) := by decide +kernel
theorem d_F_state_27 : decode c_F_state 27 = .ok (.iload_n 1, 1) := by decide +kernel
theorem d_F_state_28 : decode c_F_state 28 = .ok (.aaload, 1) := by decide +kernel
theorem d_F_state_29 : decode c_F_state 29 = .ok (.getfield 51, 3) := by decide +kernel
theorem d_F_state_32 : decode c_F_state 32 = .ok (.getfield 116, 3) := by decide +kernel
theorem d_F_state_35 : decode c_F_state 35 = .ok (.ifCond .eq 6, 3) := by decide +kernel
theorem d_F_state_38 : decode c_F_state 38 = .ok (.iinc 2 2, 3) := by decide +kernel
theorem d_F_state_41 : decode c_F_state 41 = .ok (.aload_n 0, 1) := by decide +kernel
theorem d_F_state_42 : decode c_F_state 42 = .ok (.iload_n 1, 1) := by decide +kernel
theorem d_F_state_43 : decode c_F_state 43 = .ok (.invokevirtual 119, 3) := by decide +kernel
theorem d_F_state_46 : decode c_F_state 46 = .ok (.ifCond .eq 6, 3) := by decide +kernel
theorem d_F_state_49 : decode c_F_state 49 = .ok (.iinc 2 64, 3) := by decide +kernel
theorem d_F_state_52 : decode c_F_state 52 = .ok (.iload_n 2, 1) := by decide +kernel
theorem d_F_state_53 : decode c_F_state 53 = .ok (.ireturn, 1) := by decide +kernel
theorem d_F_sum_0 : decode c_F_sum 0 = .ok (.aload_n 0, 1) := by decide +kernel
theorem d_F_sum_1 : decode c_F_sum 1 = .ok (.iload_n 1, 1) := by decide +kernel
theorem d_F_sum_2 : decode c_F_sum 2 = .ok (.invokevirtual 44, 3) := by decide +kernel
theorem d_F_sum_5 : decode c_F_sum 5 = .ok (.ifCond .eq 18, 3) := by decide +kernel
theorem d_F_sum_8 : decode c_F_sum 8 = .ok (.aload_n 0, 1) := by decide +kernel
theorem d_F_sum_9 : decode c_F_sum 9 = .ok (.getfield 11, 3) := by decide +kernel
theorem d_F_sum_12 : decode c_F_sum 12 = .ok (.iload_n 1, 1) := by decide +kernel
theorem d_F_sum_13 : decode c_F_sum 13 = .ok (.aaload, 1) := by decide +kernel
theorem d_F_sum_14 : decode c_F_sum 14 = .ok (.getfield 51, 3) := by decide +kernel
theorem d_F_sum_17 : decode c_F_sum 17 = .ok (.getfield 122, 3) := by decide +kernel
theorem d_F_sum_20 : decode c_F_sum 20 = .ok (.goto 6, 3) := by decide +kernel
theorem d_F_sum_23 : decode c_F_sum 23 = .ok (.ldc2_w 126, 3) := by decide +kernel
theorem d_F_sum_26 : decode c_F_sum 26 = .ok (.lreturn, 1) := by decide +kernel
theorem d_F_used_0 : decode c_F_used 0 = .ok (.aload_n 0, 1) := by decide +kernel
theorem d_F_used_1 : decode c_F_used 1 = .ok (.iload_n 1, 1) := by decide +kernel
theorem d_F_used_2 : decode c_F_used 2 = .ok (.invokevirtual 44, 3) := by decide +kernel
theorem d_F_used_5 : decode c_F_used 5 = .ok (.ifCond .eq 18, 3) := by decide +kernel
theorem d_F_used_8 : decode c_F_used 8 = .ok (.aload_n 0, 1) := by decide +kernel
theorem d_F_used_9 : decode c_F_used 9 = .ok (.getfield 11, 3) := by decide +kernel
theorem d_F_used_12 : decode c_F_used 12 = .ok (.iload_n 1, 1) := by decide +kernel
theorem d_F_used_13 : decode c_F_used 13 = .ok (.aaload, 1) := by decide +kernel
theorem d_F_used_14 : decode c_F_used 14 = .ok (.getfield 77, 3) := by decide +kernel
theorem d_F_used_17 : decode c_F_used 17 = .ok (.getfield 128, 3) := by decide +kernel
theorem d_F_used_20 : decode c_F_used 20 = .ok (.goto 4, 3) := by decide +kernel
theorem d_F_used_23 : decode c_F_used 23 = .ok (.iconst (-1), 1) := by decide +kernel
theorem d_F_used_24 : decode c_F_used 24 = .ok (.ireturn, 1) := by decide +kernel
theorem d_F_changes_0 : decode c_F_changes 0 = .ok (.aload_n 0, 1) := by decide +kernel
theorem d_F_changes_1 : decode c_F_changes 1 = .ok (.iload_n 1, 1) := by decide +kernel
theorem d_F_changes_2 : decode c_F_changes 2 = .ok (.invokevirtual 44, 3) := by decide +kernel
theorem d_F_changes_5 : decode c_F_changes 5 = .ok (.ifCond .eq 18, 3) := by decide +kernel
theorem d_F_changes_8 : decode c_F_changes 8 = .ok (.aload_n 0, 1) := by decide +kernel
theorem d_F_changes_9 : decode c_F_changes 9 = .ok (.getfield 11, 3) := by decide +kernel
theorem d_F_changes_12 : decode c_F_changes 12 = .ok (.iload_n 1, 1) := by decide +kernel
theorem d_F_changes_13 : decode c_F_changes 13 = .ok (.aaload, 1) := by decide +kernel
theorem d_F_changes_14 : decode c_F_changes 14 = .ok (.getfield 86, 3) := by decide +kernel
theorem d_F_changes_17 : decode c_F_changes 17 = .ok (.getfield 131, 3) := by decide +kernel
theorem d_F_changes_20 : decode c_F_changes 20 = .ok (.goto 4, 3) := by decide +kernel
theorem d_F_changes_23 : decode c_F_changes 23 = .ok (.iconst (-1), 1) := by decide +kernel
theorem d_F_changes_24 : decode c_F_changes 24 = .ok (.ireturn, 1) := by decide +kernel
theorem d_F_known_0 : decode c_F_known 0 = .ok (.aload_n 0, 1) := by decide +kernel
theorem d_F_known_1 : decode c_F_known 1 = .ok (.iload_n 1, 1) := by decide +kernel
theorem d_F_known_2 : decode c_F_known 2 = .ok (.invokevirtual 44, 3) := by decide +kernel
theorem d_F_known_5 : decode c_F_known 5 = .ok (.ifCond .eq 31, 3) := by decide +kernel
theorem d_F_known_8 : decode c_F_known 8 = .ok (.aload_n 0, 1) := by decide +kernel
theorem d_F_known_9 : decode c_F_known 9 = .ok (.getfield 11, 3) := by decide +kernel
theorem d_F_known_12 : decode c_F_known 12 = .ok (.iload_n 1, 1) := by decide +kernel
theorem d_F_known_13 : decode c_F_known 13 = .ok (.aaload, 1) := by decide +kernel
theorem d_F_known_14 : decode c_F_known 14 = .ok (.getfield 134, 3) := by decide +kernel
theorem d_F_known_17 : decode c_F_known 17 = .ok (.iconst (-1), 1) := by decide +kernel
theorem d_F_known_18 : decode c_F_known 18 = .ok (.if_icmp .eq 18, 3) := by decide +kernel
theorem d_F_known_21 : decode c_F_known 21 = .ok (.aload_n 0, 1) := by decide +kernel
theorem d_F_known_22 : decode c_F_known 22 = .ok (.getfield 11, 3) := by decide +kernel
theorem d_F_known_25 : decode c_F_known 25 = .ok (.iload_n 1, 1) := by decide +kernel
theorem d_F_known_26 : decode c_F_known 26 = .ok (.aaload, 1) := by decide +kernel
theorem d_F_known_27 : decode c_F_known 27 = .ok (.getfield 86, 3) := by decide +kernel
theorem d_F_known_30 : decode c_F_known 30 = .ok (.getfield 137, 3) := by decide +kernel
theorem d_F_known_33 : decode c_F_known 33 = .ok (.goto 4, 3) := by decide +kernel
theorem d_F_known_36 : decode c_F_known 36 = .ok (.iconst (-1), 1) := by decide +kernel
theorem d_F_known_37 : decode c_F_known 37 = .ok (.ireturn, 1) := by decide +kernel
theorem d_F_effective_0 : decode c_F_effective 0 = .ok (.aload_n 0, 1) := by decide +kernel
theorem d_F_effective_1 : decode c_F_effective 1 = .ok (.iload_n 1, 1) := by decide +kernel
theorem d_F_effective_2 : decode c_F_effective 2 = .ok (.invokevirtual 44, 3) := by decide +kernel
theorem d_F_effective_5 : decode c_F_effective 5 = .ok (.ifCond .eq 18, 3) := by decide +kernel
theorem d_F_effective_8 : decode c_F_effective 8 = .ok (.aload_n 0, 1) := by decide +kernel
theorem d_F_effective_9 : decode c_F_effective 9 = .ok (.getfield 11, 3) := by decide +kernel
theorem d_F_effective_12 : decode c_F_effective 12 = .ok (.iload_n 1, 1) := by decide +kernel
theorem d_F_effective_13 : decode c_F_effective 13 = .ok (.aaload, 1) := by decide +kernel
theorem d_F_effective_14 : decode c_F_effective 14 = .ok (.getfield 51, 3) := by decide +kernel
theorem d_F_effective_17 : decode c_F_effective 17 = .ok (.getfield 140, 3) := by decide +kernel
theorem d_F_effective_20 : decode c_F_effective 20 = .ok (.goto 4, 3) := by decide +kernel
theorem d_F_effective_23 : decode c_F_effective 23 = .ok (.iconst (-1), 1) := by decide +kernel
theorem d_F_effective_24 : decode c_F_effective 24 = .ok (.ireturn, 1) := by decide +kernel
theorem d_F_events_0 : decode c_F_events 0 = .ok (.aload_n 0, 1) := by decide +kernel
theorem d_F_events_1 : decode c_F_events 1 = .ok (.getfield 26, 3) := by decide +kernel
theorem d_F_events_4 : decode c_F_events 4 = .ok (.getfield 143, 3) := by decide +kernel
theorem d_F_events_7 : decode c_F_events 7 = .ok (.ireturn, 1) := by decide +kernel
theorem d_F_event_0 : decode c_F_event 0 = .ok (.aload_n 0, 1) := by decide +kernel
theorem d_F_event_1 : decode c_F_event 1 = .ok (.getfield 26, 3) := by decide +kernel
theorem d_F_event_4 : decode c_F_event 4 = .ok (.iload_n 1, 1) := by decide +kernel
theorem d_F_event_5 : decode c_F_event 5 = .ok (.invokevirtual 146, 3) := by decide +kernel
theorem d_F_event_8 : decode c_F_event 8 = .ok (.ifCond .eq 15, 3) := by decide +kernel
theorem d_F_event_11 : decode c_F_event 11 = .ok (.aload_n 0, 1) := by decide +kernel
theorem d_F_event_12 : decode c_F_event 12 = .ok (.getfield 26, 3) := by decide +kernel
theorem d_F_event_15 : decode c_F_event 15 = .ok (.getfield 149, 3) := by decide +kernel
theorem d_F_event_18 : decode c_F_event 18 = .ok (.iload_n 1, 1) := by decide +kernel
theorem d_F_event_19 : decode c_F_event 19 = .ok (.iaload, 1) := by decide +kernel
theorem d_F_event_20 : decode c_F_event 20 = .ok (.goto 4, 3) := by decide +kernel
theorem d_F_event_23 : decode c_F_event 23 = .ok (.iconst (-1), 1) := by decide +kernel
theorem d_F_event_24 : decode c_F_event 24 = .ok (.ireturn, 1) := by decide +kernel
theorem d_F_when_0 : decode c_F_when 0 = .ok (.aload_n 0, 1) := by decide +kernel
theorem d_F_when_1 : decode c_F_when 1 = .ok (.getfield 26, 3) := by decide +kernel
theorem d_F_when_4 : decode c_F_when 4 = .ok (.iload_n 1, 1) := by decide +kernel
theorem d_F_when_5 : decode c_F_when 5 = .ok (.invokevirtual 146, 3) := by decide +kernel
theorem d_F_when_8 : decode c_F_when 8 = .ok (.ifCond .eq 15, 3) := by decide +kernel
theorem d_F_when_11 : decode c_F_when 11 = .ok (.aload_n 0, 1) := by decide +kernel
theorem d_F_when_12 : decode c_F_when 12 = .ok (.getfield 26, 3) := by decide +kernel
theorem d_F_when_15 : decode c_F_when 15 = .ok (.getfield 152, 3) := by decide +kernel
theorem d_F_when_18 : decode c_F_when 18 = .ok (.iload_n 1, 1) := by decide +kernel
theorem d_F_when_19 : decode c_F_when 19 = .ok (.iaload, 1) := by decide +kernel
theorem d_F_when_20 : decode c_F_when 20 = .ok (.goto 4, 3) := by decide +kernel
theorem d_F_when_23 : decode c_F_when 23 = .ok (.iconst (-1), 1) := by decide +kernel
theorem d_F_when_24 : decode c_F_when 24 = .ok (.ireturn, 1) := by decide +kernel
theorem d_F_isWithin_0 : decode c_F_isWithin 0 = .ok (.iload_n 0, 1) := by decide +kernel
theorem d_F_isWithin_1 : decode c_F_isWithin 1 = .ok (.iload_n 1, 1) := by decide +kernel
theorem d_F_isWithin_2 : decode c_F_isWithin 2 = .ok (.if_icmp .lt 12, 3) := by decide +kernel
theorem d_F_isWithin_5 : decode c_F_isWithin 5 = .ok (.iload_n 0, 1) := by decide +kernel
theorem d_F_isWithin_6 : decode c_F_isWithin 6 = .ok (.iload_n 2, 1) := by decide +kernel
theorem d_F_isWithin_7 : decode c_F_isWithin 7 = .ok (.if_icmp .gt 7, 3) := by decide +kernel
theorem d_F_isWithin_10 : decode c_F_isWithin 10 = .ok (.iconst 1, 1) := by decide +kernel
theorem d_F_isWithin_11 : decode c_F_isWithin 11 = .ok (.goto 4, 3) := by decide +kernel
theorem d_F_isWithin_14 : decode c_F_isWithin 14 = .ok (.iconst 0, 1) := by decide +kernel
theorem d_F_isWithin_15 : decode c_F_isWithin 15 = .ok (.ireturn, 1) := by decide +kernel
theorem d_F_isRelay_0 : decode c_F_isRelay 0 = .ok (.iload_n 1, 1) := by decide +kernel
theorem d_F_isRelay_1 : decode c_F_isRelay 1 = .ok (.ifCond .lt 15, 3) := by decide +kernel
theorem d_F_isRelay_4 : decode c_F_isRelay 4 = .ok (.iload_n 1, 1) := by decide +kernel
theorem d_F_isRelay_5 : decode c_F_isRelay 5 = .ok (.aload_n 0, 1) := by decide +kernel
theorem d_F_isRelay_6 : decode c_F_isRelay 6 = .ok (.getfield 30, 3) := by decide +kernel
theorem d_F_isRelay_9 : decode c_F_isRelay 9 = .ok (.if_icmp .ge 7, 3) := by decide +kernel
theorem d_F_isRelay_12 : decode c_F_isRelay 12 = .ok (.iconst 1, 1) := by decide +kernel
theorem d_F_isRelay_13 : decode c_F_isRelay 13 = .ok (.goto 4, 3) := by decide +kernel
theorem d_F_isRelay_16 : decode c_F_isRelay 16 = .ok (.iconst 0, 1) := by decide +kernel
theorem d_F_isRelay_17 : decode c_F_isRelay 17 = .ok (.ireturn, 1) := by decide +kernel
theorem d_F_isPlaceFor_0 : decode c_F_isPlaceFor 0 = .ok (.aload_n 0, 1) := by decide +kernel
theorem d_F_isPlaceFor_1 : decode c_F_isPlaceFor 1 = .ok (.getfield 30, 3) := by decide +kernel
theorem d_F_isPlaceFor_4 : decode c_F_isPlaceFor 4 = .ok (.ifCond .ne 16, 3) := by decide +kernel
theorem d_F_isPlaceFor_7 : decode c_F_isPlaceFor 7 = .ok (.iload_n 1, 1) := by decide +kernel
theorem d_F_isPlaceFor_8 : decode c_F_isPlaceFor 8 = .ok (.iconst (-1), 1) := by decide +kernel
theorem d_F_isPlaceFor_9 : decode c_F_isPlaceFor 9 = .ok (.if_icmp .ne 7, 3) := by decide +kernel
theorem d_F_isPlaceFor_12 : decode c_F_isPlaceFor 12 = .ok (.iconst 1, 1) := by decide +kernel
theorem d_F_isPlaceFor_13 : decode c_F_isPlaceFor 13 = .ok (.goto 12, 3) := by decide +kernel
theorem d_F_isPlaceFor_16 : decode c_F_isPlaceFor 16 = .ok (.iconst 0, 1) := by decide +kernel
theorem d_F_isPlaceFor_17 : decode c_F_isPlaceFor 17 = .ok (.goto 8, 3) := by decide +kernel
theorem d_F_isPlaceFor_20 : decode c_F_isPlaceFor 20 = .ok (.aload_n 0, 1) := by decide +kernel
theorem d_F_isPlaceFor_21 : decode c_F_isPlaceFor 21 = .ok (.iload_n 1, 1) := by decide +kernel
theorem d_F_isPlaceFor_22 : decode c_F_isPlaceFor 22 = .ok (.invokevirtual 44, 3) := by decide +kernel
theorem d_F_isPlaceFor_25 : decode c_F_isPlaceFor 25 = .ok (.ireturn, 1) := by decide +kernel
theorem d_F_tick_0 : decode c_F_tick 0 = .ok (.aload_n 0, 1) := by decide +kernel
theorem d_F_tick_1 : decode c_F_tick 1 = .ok (.dup, 1) := by decide +kernel
theorem d_F_tick_2 : decode c_F_tick 2 = .ok (.getfield 34, 3) := by decide +kernel
theorem d_F_tick_5 : decode c_F_tick 5 = .ok (.iconst 1, 1) := by decide +kernel
theorem d_F_tick_6 : decode c_F_tick 6 = .ok (.iadd, 1) := by decide +kernel
theorem d_F_tick_7 : decode c_F_tick 7 = .ok (.putfield 34, 3) := by decide +kernel
theorem d_F_tick_10 : decode c_F_tick 10 = .ok (.iconst 0, 1) := by decide +kernel
theorem d_F_tick_11 : decode c_F_tick 11 = .ok (.istore_n 1, 1) := by decide +kernel
theorem d_F_tick_12 : decode c_F_tick 12 = .ok (.iload_n 1, 1) := by decide +kernel
theorem d_F_tick_13 : decode c_F_tick 13 = .ok (.aload_n 0, 1) := by decide +kernel
theorem d_F_tick_14 : decode c_F_tick 14 = .ok (.getfield 30, 3) := by decide +kernel
theorem d_F_tick_17 : decode c_F_tick 17 = .ok (.if_icmp .ge 25, 3) := by decide +kernel
theorem d_F_tick_20 : decode c_F_tick 20 = .ok (.aload_n 0, 1) := by decide +kernel
theorem d_F_tick_21 : decode c_F_tick 21 = .ok (.getfield 11, 3) := by decide +kernel
theorem d_F_tick_24 : decode c_F_tick 24 = .ok (.iload_n 1, 1) := by decide +kernel
theorem d_F_tick_25 : decode c_F_tick 25 = .ok (.aaload, 1) := by decide +kernel
theorem d_F_tick_26 : decode c_F_tick 26 = .ok (.getfield 86, 3) := by decide +kernel
theorem d_F_tick_29 : decode c_F_tick 29 = .ok (.aload_n 0, 1) := by decide +kernel
theorem d_F_tick_30 : decode c_F_tick 30 = .ok (.getfield 34, 3) := by decide +kernel
theorem d_F_tick_33 : decode c_F_tick 33 = .ok (.invokevirtual 155, 3) := by decide +kernel
theorem d_F_tick_36 : decode c_F_tick 36 = .ok (.iinc 1 1, 3) := by decide +kernel
theorem d_F_tick_39 : decode c_F_tick 39 = .ok (.goto (-27), 3) := by decide +kernel
theorem d_F_tick_42 : decode c_F_tick 42 = .ok (.iconst 0, 1) := by decide +kernel
theorem d_F_tick_43 : decode c_F_tick 43 = .ok (.istore_n 1, 1) := by decide +kernel
theorem d_F_tick_44 : decode c_F_tick 44 = .ok (.iload_n 1, 1) := by decide +kernel
theorem d_F_tick_45 : decode c_F_tick 45 = .ok (.aload_n 0, 1) := by decide +kernel
theorem d_F_tick_46 : decode c_F_tick 46 = .ok (.getfield 30, 3) := by decide +kernel
theorem d_F_tick_49 : decode c_F_tick 49 = .ok (.if_icmp .ge 14, 3) := by decide +kernel
theorem d_F_tick_52 : decode c_F_tick 52 = .ok (.aload_n 0, 1) := by decide +kernel
theorem d_F_tick_53 : decode c_F_tick 53 = .ok (.iload_n 1, 1) := by decide +kernel
theorem d_F_tick_54 : decode c_F_tick 54 = .ok (.invokevirtual 158, 3) := by decide +kernel
theorem d_F_tick_57 : decode c_F_tick 57 = .ok (.iinc 1 1, 3) := by decide +kernel
theorem d_F_tick_60 : decode c_F_tick 60 = .ok (.goto (-16), 3) := by decide +kernel
theorem d_F_tick_63 : decode c_F_tick 63 = .ok (.aload_n 0, 1) := by decide +kernel
theorem d_F_tick_64 : decode c_F_tick 64 = .ok (.invokevirtual 161, 3) := by decide +kernel
theorem d_F_tick_67 : decode c_F_tick 67 = .ok (.iconst 0, 1) := by decide +kernel
theorem d_F_tick_68 : decode c_F_tick 68 = .ok (.istore_n 1, 1) := by decide +kernel
theorem d_F_tick_69 : decode c_F_tick 69 = .ok (.iload_n 1, 1) := by decide +kernel
theorem d_F_tick_70 : decode c_F_tick 70 = .ok (.aload_n 0, 1) := by decide +kernel
theorem d_F_tick_71 : decode c_F_tick 71 = .ok (.getfield 30, 3) := by decide +kernel
theorem d_F_tick_74 : decode c_F_tick 74 = .ok (.if_icmp .ge 14, 3) := by decide +kernel
theorem d_F_tick_77 : decode c_F_tick 77 = .ok (.aload_n 0, 1) := by decide +kernel
theorem d_F_tick_78 : decode c_F_tick 78 = .ok (.iload_n 1, 1) := by decide +kernel
theorem d_F_tick_79 : decode c_F_tick 79 = .ok (.invokevirtual 164, 3) := by decide +kernel
theorem d_F_tick_82 : decode c_F_tick 82 = .ok (.iinc 1 1, 3) := by decide +kernel
theorem d_F_tick_85 : decode c_F_tick 85 = .ok (.goto (-16), 3) := by decide +kernel
theorem d_F_tick_88 : decode c_F_tick 88 = .ok (.iconst 0, 1) := by decide +kernel
theorem d_F_tick_89 : decode c_F_tick 89 = .ok (.istore_n 1, 1) := by decide +kernel
theorem d_F_tick_90 : decode c_F_tick 90 = .ok (.iload_n 1, 1) := by decide +kernel
theorem d_F_tick_91 : decode c_F_tick 91 = .ok (.aload_n 0, 1) := by decide +kernel
theorem d_F_tick_92 : decode c_F_tick 92 = .ok (.getfield 30, 3) := by decide +kernel
theorem d_F_tick_95 : decode c_F_tick 95 = .ok (.if_icmp .ge 14, 3) := by decide +kernel
theorem d_F_tick_98 : decode c_F_tick 98 = .ok (.aload_n 0, 1) := by decide +kernel
theorem d_F_tick_99 : decode c_F_tick 99 = .ok (.iload_n 1, 1) := by decide +kernel
theorem d_F_tick_100 : decode c_F_tick 100 = .ok (.invokevirtual 167, 3) := by decide +kernel
theorem d_F_tick_103 : decode c_F_tick 103 = .ok (.iinc 1 1, 3) := by decide +kernel
theorem d_F_tick_106 : decode c_F_tick 106 = .ok (.goto (-16), 3) := by decide +kernel
theorem d_F_tick_109 : decode c_F_tick 109 = .ok (.aload_n 0, 1) := by decide +kernel
theorem d_F_tick_110 : decode c_F_tick 110 = .ok (.getfield 26, 3) := by decide +kernel
theorem d_F_tick_113 : decode c_F_tick 113 = .ok (.invokevirtual 170, 3) := by decide +kernel
theorem d_F_tick_116 : decode c_F_tick 116 = .ok (.return_, 1) := by decide +kernel
theorem d_F_moveBreaker_0 : decode c_F_moveBreaker 0 = .ok (.aload_n 0, 1) := by decide +kernel
theorem d_F_moveBreaker_1 : decode c_F_moveBreaker 1 = .ok (.getfield 11, 3) := by decide +kernel
theorem d_F_moveBreaker_4 : decode c_F_moveBreaker 4 = .ok (.iload_n 1, 1) := by decide +kernel
theorem d_F_moveBreaker_5 : decode c_F_moveBreaker 5 = .ok (.aaload, 1) := by decide +kernel
theorem d_F_moveBreaker_6 : decode c_F_moveBreaker 6 = .ok (.getfield 77, 3) := by decide +kernel
theorem d_F_moveBreaker_9 : decode c_F_moveBreaker 9 = .ok (.astore_n 2, 1) := by decide +kernel
theorem d_F_moveBreaker_10 : decode c_F_moveBreaker 10 = .ok (.aload_n 2, 1) := by decide +kernel
theorem d_F_moveBreaker_11 : decode c_F_moveBreaker 11 = .ok (.aload_n 0, 1) := by decide +kernel
theorem d_F_moveBreaker_12 : decode c_F_moveBreaker 12 = .ok (.getfield 34, 3) := by decide +kernel
theorem d_F_moveBreaker_15 : decode c_F_moveBreaker 15 = .ok (.invokevirtual 173, 3) := by decide +kernel
theorem d_F_moveBreaker_18 : decode c_F_moveBreaker 18 = .ok (.ifCond .eq 85, 3) := by decide +kernel
theorem d_F_moveBreaker_21 : decode c_F_moveBreaker 21 = .ok (.aload_n 2, 1) := by decide +kernel
theorem d_F_moveBreaker_22 : decode c_F_moveBreaker 22 = .ok (.getfield 176, 3) := by decide +kernel
theorem d_F_moveBreaker_25 : decode c_F_moveBreaker 25 = .ok (.ifCond .eq 23, 3) := by decide +kernel
theorem d_F_moveBreaker_28 : decode c_F_moveBreaker 28 = .ok (.aload_n 2, 1) := by decide +kernel
theorem d_F_moveBreaker_29 : decode c_F_moveBreaker 29 = .ok (.getfield 128, 3) := by decide +kernel
theorem d_F_moveBreaker_32 : decode c_F_moveBreaker 32 = .ok (.aload_n 0, 1) := by decide +kernel
theorem d_F_moveBreaker_33 : decode c_F_moveBreaker 33 = .ok (.getfield 11, 3) := by decide +kernel
theorem d_F_moveBreaker_36 : decode c_F_moveBreaker 36 = .ok (.iload_n 1, 1) := by decide +kernel
theorem d_F_moveBreaker_37 : decode c_F_moveBreaker 37 = .ok (.aaload, 1) := by decide +kernel
theorem d_F_moveBreaker_38 : decode c_F_moveBreaker 38 = .ok (.getfield 65, 3) := by decide +kernel
theorem d_F_moveBreaker_41 : decode c_F_moveBreaker 41 = .ok (.if_icmp .ge 7, 3) := by decide +kernel
theorem d_F_moveBreaker_44 : decode c_F_moveBreaker 44 = .ok (.iconst 1, 1) := by decide +kernel
theorem d_F_moveBreaker_45 : decode c_F_moveBreaker 45 = .ok (.goto 4, 3) := by decide +kernel
theorem d_F_moveBreaker_48 : decode c_F_moveBreaker 48 = .ok (.iconst 0, 1) := by decide +kernel
theorem d_F_moveBreaker_49 : decode c_F_moveBreaker 49 = .ok (.istore_n 3, 1) := by decide +kernel
theorem d_F_moveBreaker_50 : decode c_F_moveBreaker 50 = .ok (.aload_n 2, 1) := by decide +kernel
theorem d_F_moveBreaker_51 : decode c_F_moveBreaker 51 = .ok (.invokevirtual 179, 3) := by decide +kernel
theorem d_F_moveBreaker_54 : decode c_F_moveBreaker 54 = .ok (.aload_n 0, 1) := by decide +kernel
theorem d_F_moveBreaker_55 : decode c_F_moveBreaker 55 = .ok (.getfield 26, 3) := by decide +kernel
theorem d_F_moveBreaker_58 : decode c_F_moveBreaker 58 = .ok (.iconst 2, 1) := by decide +kernel
theorem d_F_moveBreaker_59 : decode c_F_moveBreaker 59 = .ok (.iload_n 1, 1) := by decide +kernel
theorem d_F_moveBreaker_60 : decode c_F_moveBreaker 60 = .ok (.aload_n 0, 1) := by decide +kernel
theorem d_F_moveBreaker_61 : decode c_F_moveBreaker 61 = .ok (.getfield 34, 3) := by decide +kernel
theorem d_F_moveBreaker_64 : decode c_F_moveBreaker 64 = .ok (.invokevirtual 182, 3) := by decide +kernel
theorem d_F_moveBreaker_67 : decode c_F_moveBreaker 67 = .ok (.iload_n 3, 1) := by decide +kernel
theorem d_F_moveBreaker_68 : decode c_F_moveBreaker 68 = .ok (.ifCond .eq 14, 3) := by decide +kernel
theorem d_F_moveBreaker_71 : decode c_F_moveBreaker 71 = .ok (.aload_n 2, 1) := by decide +kernel
theorem d_F_moveBreaker_72 : decode c_F_moveBreaker 72 = .ok (.aload_n 0, 1) := by decide +kernel
theorem d_F_moveBreaker_73 : decode c_F_moveBreaker 73 = .ok (.getfield 34, 3) := by decide +kernel
theorem d_F_moveBreaker_76 : decode c_F_moveBreaker 76 = .ok (.invokevirtual 185, 3) := by decide +kernel
theorem d_F_moveBreaker_79 : decode c_F_moveBreaker 79 = .ok (.goto 21, 3) := by decide +kernel
theorem d_F_moveBreaker_82 : decode c_F_moveBreaker 82 = .ok (.aload_n 2, 1) := by decide +kernel
theorem d_F_moveBreaker_83 : decode c_F_moveBreaker 83 = .ok (.iconst 1, 1) := by decide +kernel
theorem d_F_moveBreaker_84 : decode c_F_moveBreaker 84 = .ok (.putfield 188, 3) := by decide +kernel
theorem d_F_moveBreaker_87 : decode c_F_moveBreaker 87 = .ok (.aload_n 0, 1) := by decide +kernel
theorem d_F_moveBreaker_88 : decode c_F_moveBreaker 88 = .ok (.getfield 26, 3) := by decide +kernel
theorem d_F_moveBreaker_91 : decode c_F_moveBreaker 91 = .ok (.iconst 5, 1) := by decide +kernel
theorem d_F_moveBreaker_92 : decode c_F_moveBreaker 92 = .ok (.iload_n 1, 1) := by decide +kernel
theorem d_F_moveBreaker_93 : decode c_F_moveBreaker 93 = .ok (.aload_n 0, 1) := by decide +kernel
theorem d_F_moveBreaker_94 : decode c_F_moveBreaker 94 = .ok (.getfield 34, 3) := by decide +kernel
theorem d_F_moveBreaker_97 : decode c_F_moveBreaker 97 = .ok (.invokevirtual 182, 3) := by decide +kernel
theorem d_F_moveBreaker_100 : decode c_F_moveBreaker 100 = .ok (.goto 67, 3) := by decide +kernel
theorem d_F_moveBreaker_103 : decode c_F_moveBreaker 103 = .ok (.aload_n 2, 1) := by decide +kernel
theorem d_F_moveBreaker_104 : decode c_F_moveBreaker 104 = .ok (.aload_n 0, 1) := by decide +kernel
theorem d_F_moveBreaker_105 : decode c_F_moveBreaker 105 = .ok (.getfield 34, 3) := by decide +kernel
theorem d_F_moveBreaker_108 : decode c_F_moveBreaker 108 = .ok (.invokevirtual 191, 3) := by decide +kernel
theorem d_F_moveBreaker_111 : decode c_F_moveBreaker 111 = .ok (.ifCond .eq 27, 3) := by decide +kernel
theorem d_F_moveBreaker_114 : decode c_F_moveBreaker 114 = .ok (.aload_n 2, 1) := by decide +kernel
theorem d_F_moveBreaker_115 : decode c_F_moveBreaker 115 = .ok (.aload_n 0, 1) := by decide +kernel
theorem d_F_moveBreaker_116 : decode c_F_moveBreaker 116 = .ok (.getfield 34, 3) := by decide +kernel
theorem d_F_moveBreaker_119 : decode c_F_moveBreaker 119 = .ok (.invokevirtual 194, 3) := by decide +kernel
theorem d_F_moveBreaker_122 : decode c_F_moveBreaker 122 = .ok (.aload_n 0, 1) := by decide +kernel
theorem d_F_moveBreaker_123 : decode c_F_moveBreaker 123 = .ok (.getfield 26, 3) := by decide +kernel
theorem d_F_moveBreaker_126 : decode c_F_moveBreaker 126 = .ok (.iconst 3, 1) := by decide +kernel
theorem d_F_moveBreaker_127 : decode c_F_moveBreaker 127 = .ok (.iload_n 1, 1) := by decide +kernel
theorem d_F_moveBreaker_128 : decode c_F_moveBreaker 128 = .ok (.aload_n 0, 1) := by decide +kernel
theorem d_F_moveBreaker_129 : decode c_F_moveBreaker 129 = .ok (.getfield 34, 3) := by decide +kernel
theorem d_F_moveBreaker_132 : decode c_F_moveBreaker 132 = .ok (.invokevirtual 182, 3) := by decide +kernel
theorem d_F_moveBreaker_135 : decode c_F_moveBreaker 135 = .ok (.goto 32, 3) := by decide +kernel
theorem d_F_moveBreaker_138 : decode c_F_moveBreaker 138 = .ok (.aload_n 2, 1) := by decide +kernel
theorem d_F_moveBreaker_139 : decode c_F_moveBreaker 139 = .ok (.aload_n 0, 1) := by decide +kernel
theorem d_F_moveBreaker_140 : decode c_F_moveBreaker 140 = .ok (.getfield 34, 3) := by decide +kernel
theorem d_F_moveBreaker_143 : decode c_F_moveBreaker 143 = .ok (.invokevirtual 197, 3) := by decide +kernel
theorem d_F_moveBreaker_146 : decode c_F_moveBreaker 146 = .ok (.ifCond .eq 21, 3) := by decide +kernel
theorem d_F_moveBreaker_149 : decode c_F_moveBreaker 149 = .ok (.aload_n 2, 1) := by decide +kernel
theorem d_F_moveBreaker_150 : decode c_F_moveBreaker 150 = .ok (.iconst 0, 1) := by decide +kernel
theorem d_F_moveBreaker_151 : decode c_F_moveBreaker 151 = .ok (.putfield 128, 3) := by decide +kernel
theorem d_F_moveBreaker_154 : decode c_F_moveBreaker 154 = .ok (.aload_n 0, 1) := by decide +kernel
theorem d_F_moveBreaker_155 : decode c_F_moveBreaker 155 = .ok (.getfield 26, 3) := by decide +kernel
theorem d_F_moveBreaker_158 : decode c_F_moveBreaker 158 = .ok (.iconst 4, 1) := by decide +kernel
theorem d_F_moveBreaker_159 : decode c_F_moveBreaker 159 = .ok (.iload_n 1, 1) := by decide +kernel
theorem d_F_moveBreaker_160 : decode c_F_moveBreaker 160 = .ok (.aload_n 0, 1) := by decide +kernel
theorem d_F_moveBreaker_161 : decode c_F_moveBreaker 161 = .ok (.getfield 34, 3) := by decide +kernel
theorem d_F_moveBreaker_164 : decode c_F_moveBreaker 164 = .ok (.invokevirtual 182, 3) := by decide +kernel
theorem d_F_moveBreaker_167 : decode c_F_moveBreaker 167 = .ok (.return_, 1) := by decide +kernel
theorem d_F_measureAll_0 : decode c_F_measureAll 0 = .ok (.aload_n 0, 1) := by decide +kernel
theorem d_F_measureAll_1 : decode c_F_measureAll 1 = .ok (.invokevirtual 110, 3) := by decide +kernel
theorem d_F_measureAll_4 : decode c_F_measureAll 4 = .ok (.iconst 0, 1) := by decide +kernel
theorem d_F_measureAll_5 : decode c_F_measureAll 5 = .ok (.istore_n 1, 1) := by decide +kernel
theorem d_F_measureAll_6 : decode c_F_measureAll 6 = .ok (.iload_n 1, 1) := by decide +kernel
theorem d_F_measureAll_7 : decode c_F_measureAll 7 = .ok (.aload_n 0, 1) := by decide +kernel
theorem d_F_measureAll_8 : decode c_F_measureAll 8 = .ok (.getfield 30, 3) := by decide +kernel
theorem d_F_measureAll_11 : decode c_F_measureAll 11 = .ok (.if_icmp .ge 67, 3) := by decide +kernel
theorem d_F_measureAll_14 : decode c_F_measureAll 14 = .ok (.aload_n 0, 1) := by decide +kernel
theorem d_F_measureAll_15 : decode c_F_measureAll 15 = .ok (.getfield 11, 3) := by decide +kernel
theorem d_F_measureAll_18 : decode c_F_measureAll 18 = .ok (.iload_n 1, 1) := by decide +kernel
theorem d_F_measureAll_19 : decode c_F_measureAll 19 = .ok (.aaload, 1) := by decide +kernel
theorem d_F_measureAll_20 : decode c_F_measureAll 20 = .ok (.getfield 51, 3) := by decide +kernel
theorem d_F_measureAll_23 : decode c_F_measureAll 23 = .ok (.astore_n 2, 1) := by decide +kernel
theorem d_F_measureAll_24 : decode c_F_measureAll 24 = .ok (.aload_n 2, 1) := by decide +kernel
theorem d_F_measureAll_25 : decode c_F_measureAll 25 = .ok (.getfield 116, 3) := by decide +kernel
theorem d_F_measureAll_28 : decode c_F_measureAll 28 = .ok (.istore_n 3, 1) := by decide +kernel
theorem d_F_measureAll_29 : decode c_F_measureAll 29 = .ok (.aload_n 2, 1) := by decide +kernel
theorem d_F_measureAll_30 : decode c_F_measureAll 30 = .ok (.aload_n 0, 1) := by decide +kernel
theorem d_F_measureAll_31 : decode c_F_measureAll 31 = .ok (.getfield 15, 3) := by decide +kernel
theorem d_F_measureAll_34 : decode c_F_measureAll 34 = .ok (.iload_n 1, 1) := by decide +kernel
theorem d_F_measureAll_35 : decode c_F_measureAll 35 = .ok (.iaload, 1) := by decide +kernel
theorem d_F_measureAll_36 : decode c_F_measureAll 36 = .ok (.invokevirtual 200, 3) := by decide +kernel
theorem d_F_measureAll_39 : decode c_F_measureAll 39 = .ok (.aload_n 0, 1) := by decide +kernel
theorem d_F_measureAll_40 : decode c_F_measureAll 40 = .ok (.getfield 11, 3) := by decide +kernel
theorem d_F_measureAll_43 : decode c_F_measureAll 43 = .ok (.iload_n 1, 1) := by decide +kernel
theorem d_F_measureAll_44 : decode c_F_measureAll 44 = .ok (.aaload, 1) := by decide +kernel
theorem d_F_measureAll_45 : decode c_F_measureAll 45 = .ok (.getfield 86, 3) := by decide +kernel
theorem d_F_measureAll_48 : decode c_F_measureAll 48 = .ok (.aload_n 0, 1) := by decide +kernel
theorem d_F_measureAll_49 : decode c_F_measureAll 49 = .ok (.getfield 34, 3) := by decide +kernel
theorem d_F_measureAll_52 : decode c_F_measureAll 52 = .ok (.aload_n 2, 1) := by decide +kernel
theorem d_F_measureAll_53 : decode c_F_measureAll 53 = .ok (.getfield 116, 3) := by decide +kernel
theorem d_F_measureAll_56 : decode c_F_measureAll 56 = .ok (.aload_n 2, 1) := by decide +kernel
theorem d_F_measureAll_57 : decode c_F_measureAll 57 = .ok (.getfield 116, 3) := by decide +kernel
theorem d_F_measureAll_60 : decode c_F_measureAll 60 = .ok (.iload_n 3, 1) := by decide +kernel
theorem d_F_measureAll_61 : decode c_F_measureAll 61 = .ok (.if_icmp .eq 7, 3) := by decide +kernel
theorem d_F_measureAll_64 : decode c_F_measureAll 64 = .ok (.iconst 1, 1) := by decide +kernel
theorem d_F_measureAll_65 : decode c_F_measureAll 65 = .ok (.goto 4, 3) := by decide +kernel
theorem d_F_measureAll_68 : decode c_F_measureAll 68 = .ok (.iconst 0, 1) := by decide +kernel
theorem d_F_measureAll_69 : decode c_F_measureAll 69 = .ok (.invokevirtual 203, 3) := by decide +kernel
theorem d_F_measureAll_72 : decode c_F_measureAll 72 = .ok (.iinc 1 1, 3) := by decide +kernel
theorem d_F_measureAll_75 : decode c_F_measureAll 75 = .ok (.goto (-69), 3) := by decide +kernel
theorem d_F_measureAll_78 : decode c_F_measureAll 78 = .ok (.return_, 1) := by decide +kernel
theorem d_F_findFlows_0 : decode c_F_findFlows 0 = .ok (.iconst 0, 1) := by decide +kernel
theorem d_F_findFlows_1 : decode c_F_findFlows 1 = .ok (.istore_n 1, 1) := by decide +kernel
theorem d_F_findFlows_2 : decode c_F_findFlows 2 = .ok (.iload_n 1, 1) := by decide +kernel
theorem d_F_findFlows_3 : decode c_F_findFlows 3 = .ok (.aload_n 0, 1) := by decide +kernel
theorem d_F_findFlows_4 : decode c_F_findFlows 4 = .ok (.getfield 30, 3) := by decide +kernel
theorem d_F_findFlows_7 : decode c_F_findFlows 7 = .ok (.if_icmp .ge 85, 3) := by decide +kernel
theorem d_F_findFlows_10 : decode c_F_findFlows 10 = .ok (.aload_n 0, 1) := by decide +kernel
theorem d_F_findFlows_11 : decode c_F_findFlows 11 = .ok (.getfield 11, 3) := by decide +kernel
theorem d_F_findFlows_14 : decode c_F_findFlows 14 = .ok (.iload_n 1, 1) := by decide +kernel
theorem d_F_findFlows_15 : decode c_F_findFlows 15 = .ok (.aaload, 1) := by decide +kernel
theorem d_F_findFlows_16 : decode c_F_findFlows 16 = .ok (.astore_n 2, 1) := by decide +kernel
theorem d_F_findFlows_17 : decode c_F_findFlows 17 = .ok (.aload_n 0, 1) := by decide +kernel
theorem d_F_findFlows_18 : decode c_F_findFlows 18 = .ok (.getfield 19, 3) := by decide +kernel
theorem d_F_findFlows_21 : decode c_F_findFlows 21 = .ok (.iload_n 1, 1) := by decide +kernel
theorem d_F_findFlows_22 : decode c_F_findFlows 22 = .ok (.aload_n 2, 1) := by decide +kernel
theorem d_F_findFlows_23 : decode c_F_findFlows 23 = .ok (.getfield 77, 3) := by decide +kernel
theorem d_F_findFlows_26 : decode c_F_findFlows 26 = .ok (.getfield 95, 3) := by decide +kernel
theorem d_F_findFlows_29 : decode c_F_findFlows 29 = .ok (.ifCond .eq 27, 3) := by decide +kernel
theorem d_F_findFlows_32 : decode c_F_findFlows 32 = .ok (.aload_n 2, 1) := by decide +kernel
theorem d_F_findFlows_33 : decode c_F_findFlows 33 = .ok (.getfield 134, 3) := by decide +kernel
theorem d_F_findFlows_36 : decode c_F_findFlows 36 = .ok (.iconst (-1), 1) := by decide +kernel
theorem d_F_findFlows_37 : decode c_F_findFlows 37 = .ok (.if_icmp .eq 15, 3) := by decide +kernel
theorem d_F_findFlows_40 : decode c_F_findFlows 40 = .ok (.aload_n 0, 1) := by decide +kernel
theorem d_F_findFlows_41 : decode c_F_findFlows 41 = .ok (.getfield 19, 3) := by decide +kernel
theorem d_F_findFlows_44 : decode c_F_findFlows 44 = .ok (.aload_n 2, 1) := by decide +kernel
theorem d_F_findFlows_45 : decode c_F_findFlows 45 = .ok (.getfield 134, 3) := by decide +kernel
theorem d_F_findFlows_48 : decode c_F_findFlows 48 = .ok (.baload, 1) := by decide +kernel
theorem d_F_findFlows_49 : decode c_F_findFlows 49 = .ok (.ifCond .eq 7, 3) := by decide +kernel
theorem d_F_findFlows_52 : decode c_F_findFlows 52 = .ok (.iconst 1, 1) := by decide +kernel
theorem d_F_findFlows_53 : decode c_F_findFlows 53 = .ok (.goto 4, 3) := by decide +kernel
theorem d_F_findFlows_56 : decode c_F_findFlows 56 = .ok (.iconst 0, 1) := by decide +kernel
theorem d_F_findFlows_57 : decode c_F_findFlows 57 = .ok (.bastore, 1) := by decide +kernel
theorem d_F_findFlows_58 : decode c_F_findFlows 58 = .ok (.aload_n 0, 1) := by decide +kernel
theorem d_F_findFlows_59 : decode c_F_findFlows 59 = .ok (.getfield 15, 3) := by decide +kernel
theorem d_F_findFlows_62 : decode c_F_findFlows 62 = .ok (.iload_n 1, 1) := by decide +kernel
theorem d_F_findFlows_63 : decode c_F_findFlows 63 = .ok (.aload_n 0, 1) := by decide +kernel
theorem d_F_findFlows_64 : decode c_F_findFlows 64 = .ok (.getfield 19, 3) := by decide +kernel
theorem d_F_findFlows_67 : decode c_F_findFlows 67 = .ok (.iload_n 1, 1) := by decide +kernel
theorem d_F_findFlows_68 : decode c_F_findFlows 68 = .ok (.baload, 1) := by decide +kernel
theorem d_F_findFlows_69 : decode c_F_findFlows 69 = .ok (.ifCond .eq 15, 3) := by decide +kernel
theorem d_F_findFlows_72 : decode c_F_findFlows 72 = .ok (.aload_n 2, 1) := by decide +kernel
theorem d_F_findFlows_73 : decode c_F_findFlows 73 = .ok (.getfield 71, 3) := by decide +kernel
theorem d_F_findFlows_76 : decode c_F_findFlows 76 = .ok (.aload_n 2, 1) := by decide +kernel
theorem d_F_findFlows_77 : decode c_F_findFlows 77 = .ok (.getfield 74, 3) := by decide +kernel
theorem d_F_findFlows_80 : decode c_F_findFlows 80 = .ok (.iadd, 1) := by decide +kernel
theorem d_F_findFlows_81 : decode c_F_findFlows 81 = .ok (.goto 4, 3) := by decide +kernel
theorem d_F_findFlows_84 : decode c_F_findFlows 84 = .ok (.iconst 0, 1) := by decide +kernel
theorem d_F_findFlows_85 : decode c_F_findFlows 85 = .ok (.iastore, 1) := by decide +kernel
theorem d_F_findFlows_86 : decode c_F_findFlows 86 = .ok (.iinc 1 1, 3) := by decide +kernel
theorem d_F_findFlows_89 : decode c_F_findFlows 89 = .ok (.goto (-87), 3) := by decide +kernel
theorem d_F_findFlows_92 : decode c_F_findFlows 92 = .ok (.aload_n 0, 1) := by decide +kernel
theorem d_F_findFlows_93 : decode c_F_findFlows 93 = .ok (.getfield 30, 3) := by decide +kernel
theorem d_F_findFlows_96 : decode c_F_findFlows 96 = .ok (.iconst 1, 1) := by decide +kernel
theorem d_F_findFlows_97 : decode c_F_findFlows 97 = .ok (.isub, 1) := by decide +kernel
theorem d_F_findFlows_98 : decode c_F_findFlows 98 = .ok (.istore_n 1, 1) := by decide +kernel
theorem d_F_findFlows_99 : decode c_F_findFlows 99 = .ok (.iload_n 1, 1) := by decide +kernel
theorem d_F_findFlows_100 : decode c_F_findFlows 100 = .ok (.ifCond .le 32, 3) := by decide +kernel
theorem d_F_findFlows_103 : decode c_F_findFlows 103 = .ok (.aload_n 0, 1) := by decide +kernel
theorem d_F_findFlows_104 : decode c_F_findFlows 104 = .ok (.getfield 15, 3) := by decide +kernel
theorem d_F_findFlows_107 : decode c_F_findFlows 107 = .ok (.aload_n 0, 1) := by decide +kernel
theorem d_F_findFlows_108 : decode c_F_findFlows 108 = .ok (.getfield 11, 3) := by decide +kernel
theorem d_F_findFlows_111 : decode c_F_findFlows 111 = .ok (.iload_n 1, 1) := by decide +kernel
theorem d_F_findFlows_112 : decode c_F_findFlows 112 = .ok (.aaload, 1) := by decide +kernel
theorem d_F_findFlows_113 : decode c_F_findFlows 113 = .ok (.getfield 134, 3) := by decide +kernel
theorem d_F_findFlows_116 : decode c_F_findFlows 116 = .ok (.dup2, 1) := by decide +kernel
theorem d_F_findFlows_117 : decode c_F_findFlows 117 = .ok (.iaload, 1) := by decide +kernel
theorem d_F_findFlows_118 : decode c_F_findFlows 118 = .ok (.aload_n 0, 1) := by decide +kernel
theorem d_F_findFlows_119 : decode c_F_findFlows 119 = .ok (.getfield 15, 3) := by decide +kernel
theorem d_F_findFlows_122 : decode c_F_findFlows 122 = .ok (.iload_n 1, 1) := by decide +kernel
theorem d_F_findFlows_123 : decode c_F_findFlows 123 = .ok (.iaload, 1) := by decide +kernel
theorem d_F_findFlows_124 : decode c_F_findFlows 124 = .ok (.iadd, 1) := by decide +kernel
theorem d_F_findFlows_125 : decode c_F_findFlows 125 = .ok (.iastore, 1) := by decide +kernel
theorem d_F_findFlows_126 : decode c_F_findFlows 126 = .ok (.iinc 1 (-1), 3) := by decide +kernel
theorem d_F_findFlows_129 : decode c_F_findFlows 129 = .ok (.goto (-30), 3) := by decide +kernel
theorem d_F_findFlows_132 : decode c_F_findFlows 132 = .ok (.return_, 1) := by decide +kernel
theorem d_F_tripIfDue_0 : decode c_F_tripIfDue 0 = .ok (.aload_n 0, 1) := by decide +kernel
theorem d_F_tripIfDue_1 : decode c_F_tripIfDue 1 = .ok (.getfield 11, 3) := by decide +kernel
theorem d_F_tripIfDue_4 : decode c_F_tripIfDue 4 = .ok (.iload_n 1, 1) := by decide +kernel
theorem d_F_tripIfDue_5 : decode c_F_tripIfDue 5 = .ok (.aaload, 1) := by decide +kernel
theorem d_F_tripIfDue_6 : decode c_F_tripIfDue 6 = .ok (.getfield 77, 3) := by decide +kernel
theorem d_F_tripIfDue_9 : decode c_F_tripIfDue 9 = .ok (.astore_n 2, 1) := by decide +kernel
theorem d_F_tripIfDue_10 : decode c_F_tripIfDue 10 = .ok (.aload_n 0, 1) := by decide +kernel
theorem d_F_tripIfDue_11 : decode c_F_tripIfDue 11 = .ok (.getfield 11, 3) := by decide +kernel
theorem d_F_tripIfDue_14 : decode c_F_tripIfDue 14 = .ok (.iload_n 1, 1) := by decide +kernel
theorem d_F_tripIfDue_15 : decode c_F_tripIfDue 15 = .ok (.aaload, 1) := by decide +kernel
theorem d_F_tripIfDue_16 : decode c_F_tripIfDue 16 = .ok (.getfield 51, 3) := by decide +kernel
theorem d_F_tripIfDue_19 : decode c_F_tripIfDue 19 = .ok (.invokevirtual 207, 3) := by decide +kernel
theorem d_F_tripIfDue_22 : decode c_F_tripIfDue 22 = .ok (.ifCond .eq 40, 3) := by decide +kernel
theorem d_F_tripIfDue_25 : decode c_F_tripIfDue 25 = .ok (.aload_n 2, 1) := by decide +kernel
theorem d_F_tripIfDue_26 : decode c_F_tripIfDue 26 = .ok (.invokevirtual 211, 3) := by decide +kernel
theorem d_F_tripIfDue_29 : decode c_F_tripIfDue 29 = .ok (.ifCond .eq 33, 3) := by decide +kernel
theorem d_F_tripIfDue_32 : decode c_F_tripIfDue 32 = .ok (.aload_n 0, 1) := by decide +kernel
theorem d_F_tripIfDue_33 : decode c_F_tripIfDue 33 = .ok (.iload_n 1, 1) := by decide +kernel
theorem d_F_tripIfDue_34 : decode c_F_tripIfDue 34 = .ok (.invokevirtual 119, 3) := by decide +kernel
theorem d_F_tripIfDue_37 : decode c_F_tripIfDue 37 = .ok (.ifCond .ne 25, 3) := by decide +kernel
theorem d_F_tripIfDue_40 : decode c_F_tripIfDue 40 = .ok (.aload_n 2, 1) := by decide +kernel
theorem d_F_tripIfDue_41 : decode c_F_tripIfDue 41 = .ok (.aload_n 0, 1) := by decide +kernel
theorem d_F_tripIfDue_42 : decode c_F_tripIfDue 42 = .ok (.getfield 34, 3) := by decide +kernel
theorem d_F_tripIfDue_45 : decode c_F_tripIfDue 45 = .ok (.iconst 1, 1) := by decide +kernel
theorem d_F_tripIfDue_46 : decode c_F_tripIfDue 46 = .ok (.invokevirtual 214, 3) := by decide +kernel
theorem d_F_tripIfDue_49 : decode c_F_tripIfDue 49 = .ok (.aload_n 0, 1) := by decide +kernel
theorem d_F_tripIfDue_50 : decode c_F_tripIfDue 50 = .ok (.getfield 26, 3) := by decide +kernel
theorem d_F_tripIfDue_53 : decode c_F_tripIfDue 53 = .ok (.iconst 1, 1) := by decide +kernel
theorem d_F_tripIfDue_54 : decode c_F_tripIfDue 54 = .ok (.iload_n 1, 1) := by decide +kernel
theorem d_F_tripIfDue_55 : decode c_F_tripIfDue 55 = .ok (.aload_n 0, 1) := by decide +kernel
theorem d_F_tripIfDue_56 : decode c_F_tripIfDue 56 = .ok (.getfield 34, 3) := by decide +kernel
theorem d_F_tripIfDue_59 : decode c_F_tripIfDue 59 = .ok (.invokevirtual 182, 3) := by decide +kernel
theorem d_F_tripIfDue_62 : decode c_F_tripIfDue 62 = .ok (.return_, 1) := by decide +kernel
theorem d_F_failIfDue_0 : decode c_F_failIfDue 0 = .ok (.aload_n 0, 1) := by decide +kernel
theorem d_F_failIfDue_1 : decode c_F_failIfDue 1 = .ok (.getfield 11, 3) := by decide +kernel
theorem d_F_failIfDue_4 : decode c_F_failIfDue 4 = .ok (.iload_n 1, 1) := by decide +kernel
theorem d_F_failIfDue_5 : decode c_F_failIfDue 5 = .ok (.aaload, 1) := by decide +kernel
theorem d_F_failIfDue_6 : decode c_F_failIfDue 6 = .ok (.astore_n 2, 1) := by decide +kernel
theorem d_F_failIfDue_7 : decode c_F_failIfDue 7 = .ok (.aload_n 2, 1) := by decide +kernel
theorem d_F_failIfDue_8 : decode c_F_failIfDue 8 = .ok (.getfield 51, 3) := by decide +kernel
theorem d_F_failIfDue_11 : decode c_F_failIfDue 11 = .ok (.getfield 116, 3) := by decide +kernel
theorem d_F_failIfDue_14 : decode c_F_failIfDue 14 = .ok (.ifCond .eq 21, 3) := by decide +kernel
theorem d_F_failIfDue_17 : decode c_F_failIfDue 17 = .ok (.aload_n 2, 1) := by decide +kernel
theorem d_F_failIfDue_18 : decode c_F_failIfDue 18 = .ok (.getfield 77, 3) := by decide +kernel
theorem d_F_failIfDue_21 : decode c_F_failIfDue 21 = .ok (.aload_n 0, 1) := by decide +kernel
theorem d_F_failIfDue_22 : decode c_F_failIfDue 22 = .ok (.getfield 34, 3) := by decide +kernel
theorem d_F_failIfDue_25 : decode c_F_failIfDue 25 = .ok (.aload_n 2, 1) := by decide +kernel
theorem d_F_failIfDue_26 : decode c_F_failIfDue 26 = .ok (.getfield 68, 3) := by decide +kernel
theorem d_F_failIfDue_29 : decode c_F_failIfDue 29 = .ok (.invokevirtual 218, 3) := by decide +kernel
theorem d_F_failIfDue_32 : decode c_F_failIfDue 32 = .ok (.ifCond .ne 4, 3) := by decide +kernel
theorem d_F_failIfDue_35 : decode c_F_failIfDue 35 = .ok (.return_, 1) := by decide +kernel
theorem d_F_failIfDue_36 : decode c_F_failIfDue 36 = .ok (.aload_n 2, 1) := by decide +kernel
theorem d_F_failIfDue_37 : decode c_F_failIfDue 37 = .ok (.getfield 77, 3) := by decide +kernel
theorem d_F_failIfDue_40 : decode c_F_failIfDue 40 = .ok (.iconst 1, 1) := by decide +kernel
theorem d_F_failIfDue_41 : decode c_F_failIfDue 41 = .ok (.putfield 222, 3) := by decide +kernel
theorem d_F_failIfDue_44 : decode c_F_failIfDue 44 = .ok (.aload_n 0, 1) := by decide +kernel
theorem d_F_failIfDue_45 : decode c_F_failIfDue 45 = .ok (.getfield 26, 3) := by decide +kernel
theorem d_F_failIfDue_48 : decode c_F_failIfDue 48 = .ok (.bipush 6, 2) := by decide +kernel
theorem d_F_failIfDue_50 : decode c_F_failIfDue 50 = .ok (.iload_n 1, 1) := by decide +kernel
theorem d_F_failIfDue_51 : decode c_F_failIfDue 51 = .ok (.aload_n 0, 1) := by decide +kernel
theorem d_F_failIfDue_52 : decode c_F_failIfDue 52 = .ok (.getfield 34, 3) := by decide +kernel
theorem d_F_failIfDue_55 : decode c_F_failIfDue 55 = .ok (.invokevirtual 182, 3) := by decide +kernel
theorem d_F_failIfDue_58 : decode c_F_failIfDue 58 = .ok (.aload_n 2, 1) := by decide +kernel
theorem d_F_failIfDue_59 : decode c_F_failIfDue 59 = .ok (.getfield 134, 3) := by decide +kernel
theorem d_F_failIfDue_62 : decode c_F_failIfDue 62 = .ok (.istore_n 3, 1) := by decide +kernel
theorem d_F_failIfDue_63 : decode c_F_failIfDue 63 = .ok (.iload_n 3, 1) := by decide +kernel
theorem d_F_failIfDue_64 : decode c_F_failIfDue 64 = .ok (.iconst (-1), 1) := by decide +kernel
theorem d_F_failIfDue_65 : decode c_F_failIfDue 65 = .ok (.if_icmp .eq 49, 3) := by decide +kernel
theorem d_F_failIfDue_68 : decode c_F_failIfDue 68 = .ok (.aload_n 0, 1) := by decide +kernel
theorem d_F_failIfDue_69 : decode c_F_failIfDue 69 = .ok (.getfield 11, 3) := by decide +kernel
theorem d_F_failIfDue_72 : decode c_F_failIfDue 72 = .ok (.iload_n 3, 1) := by decide +kernel
theorem d_F_failIfDue_73 : decode c_F_failIfDue 73 = .ok (.aaload, 1) := by decide +kernel
theorem d_F_failIfDue_74 : decode c_F_failIfDue 74 = .ok (.getfield 77, 3) := by decide +kernel
theorem d_F_failIfDue_77 : decode c_F_failIfDue 77 = .ok (.invokevirtual 211, 3) := by decide +kernel
theorem d_F_failIfDue_80 : decode c_F_failIfDue 80 = .ok (.ifCond .eq 34, 3) := by decide +kernel
theorem d_F_failIfDue_83 : decode c_F_failIfDue 83 = .ok (.aload_n 0, 1) := by decide +kernel
theorem d_F_failIfDue_84 : decode c_F_failIfDue 84 = .ok (.getfield 11, 3) := by decide +kernel
theorem d_F_failIfDue_87 : decode c_F_failIfDue 87 = .ok (.iload_n 3, 1) := by decide +kernel
theorem d_F_failIfDue_88 : decode c_F_failIfDue 88 = .ok (.aaload, 1) := by decide +kernel
theorem d_F_failIfDue_89 : decode c_F_failIfDue 89 = .ok (.getfield 77, 3) := by decide +kernel
theorem d_F_failIfDue_92 : decode c_F_failIfDue 92 = .ok (.aload_n 0, 1) := by decide +kernel
theorem d_F_failIfDue_93 : decode c_F_failIfDue 93 = .ok (.getfield 34, 3) := by decide +kernel
theorem d_F_failIfDue_96 : decode c_F_failIfDue 96 = .ok (.iconst 0, 1) := by decide +kernel
theorem d_F_failIfDue_97 : decode c_F_failIfDue 97 = .ok (.invokevirtual 214, 3) := by decide +kernel
theorem d_F_failIfDue_100 : decode c_F_failIfDue 100 = .ok (.aload_n 0, 1) := by decide +kernel
theorem d_F_failIfDue_101 : decode c_F_failIfDue 101 = .ok (.getfield 26, 3) := by decide +kernel
theorem d_F_failIfDue_104 : decode c_F_failIfDue 104 = .ok (.bipush 7, 2) := by decide +kernel
theorem d_F_failIfDue_106 : decode c_F_failIfDue 106 = .ok (.iload_n 3, 1) := by decide +kernel
theorem d_F_failIfDue_107 : decode c_F_failIfDue 107 = .ok (.aload_n 0, 1) := by decide +kernel
theorem d_F_failIfDue_108 : decode c_F_failIfDue 108 = .ok (.getfield 34, 3) := by decide +kernel
theorem d_F_failIfDue_111 : decode c_F_failIfDue 111 = .ok (.invokevirtual 182, 3) := by decide +kernel
theorem d_F_failIfDue_114 : decode c_F_failIfDue 114 = .ok (.return_, 1) := by decide +kernel
theorem d_F_isBlocked_0 : decode c_F_isBlocked 0 = .ok (.aload_n 0, 1) := by decide +kernel
theorem d_F_isBlocked_1 : decode c_F_isBlocked 1 = .ok (.getfield 11, 3) := by decide +kernel
theorem d_F_isBlocked_4 : decode c_F_isBlocked 4 = .ok (.iload_n 1, 1) := by decide +kernel
theorem d_F_isBlocked_5 : decode c_F_isBlocked 5 = .ok (.aaload, 1) := by decide +kernel
theorem d_F_isBlocked_6 : decode c_F_isBlocked 6 = .ok (.getfield 61, 3) := by decide +kernel
theorem d_F_isBlocked_9 : decode c_F_isBlocked 9 = .ok (.ifCond .ne 5, 3) := by decide +kernel
theorem d_F_isBlocked_12 : decode c_F_isBlocked 12 = .ok (.iconst 0, 1) := by decide +kernel
theorem d_F_isBlocked_13 : decode c_F_isBlocked 13 = .ok (.ireturn, 1) := by decide +kernel
theorem d_F_isBlocked_14 : decode c_F_isBlocked 14 = .ok (.iload_n 1, 1) := by decide +kernel
theorem d_F_isBlocked_15 : decode c_F_isBlocked 15 = .ok (.iconst 1, 1) := by decide +kernel
theorem d_F_isBlocked_16 : decode c_F_isBlocked 16 = .ok (.iadd, 1) := by decide +kernel
theorem d_F_isBlocked_17 : decode c_F_isBlocked 17 = .ok (.istore_n 2, 1) := by decide +kernel
theorem d_F_isBlocked_18 : decode c_F_isBlocked 18 = .ok (.iload_n 2, 1) := by decide +kernel
theorem d_F_isBlocked_19 : decode c_F_isBlocked 19 = .ok (.aload_n 0, 1) := by decide +kernel
theorem d_F_isBlocked_20 : decode c_F_isBlocked 20 = .ok (.getfield 30, 3) := by decide +kernel
theorem d_F_isBlocked_23 : decode c_F_isBlocked 23 = .ok (.if_icmp .ge 43, 3) := by decide +kernel
theorem d_F_isBlocked_26 : decode c_F_isBlocked 26 = .ok (.aload_n 0, 1) := by decide +kernel
theorem d_F_isBlocked_27 : decode c_F_isBlocked 27 = .ok (.getfield 11, 3) := by decide +kernel
theorem d_F_isBlocked_30 : decode c_F_isBlocked 30 = .ok (.iload_n 2, 1) := by decide +kernel
theorem d_F_isBlocked_31 : decode c_F_isBlocked 31 = .ok (.aaload, 1) := by decide +kernel
theorem d_F_isBlocked_32 : decode c_F_isBlocked 32 = .ok (.getfield 134, 3) := by decide +kernel
theorem d_F_isBlocked_35 : decode c_F_isBlocked 35 = .ok (.iload_n 1, 1) := by decide +kernel
theorem d_F_isBlocked_36 : decode c_F_isBlocked 36 = .ok (.if_icmp .ne 24, 3) := by decide +kernel
theorem d_F_isBlocked_39 : decode c_F_isBlocked 39 = .ok (.aload_n 0, 1) := by decide +kernel
theorem d_F_isBlocked_40 : decode c_F_isBlocked 40 = .ok (.getfield 11, 3) := by decide +kernel
theorem d_F_isBlocked_43 : decode c_F_isBlocked 43 = .ok (.iload_n 2, 1) := by decide +kernel
theorem d_F_isBlocked_44 : decode c_F_isBlocked 44 = .ok (.aaload, 1) := by decide +kernel
theorem d_F_isBlocked_45 : decode c_F_isBlocked 45 = .ok (.getfield 86, 3) := by decide +kernel
theorem d_F_isBlocked_48 : decode c_F_isBlocked 48 = .ok (.aload_n 0, 1) := by decide +kernel
theorem d_F_isBlocked_49 : decode c_F_isBlocked 49 = .ok (.getfield 34, 3) := by decide +kernel
theorem d_F_isBlocked_52 : decode c_F_isBlocked 52 = .ok (.invokevirtual 225, 3) := by decide +kernel
theorem d_F_isBlocked_55 : decode c_F_isBlocked 55 = .ok (.ifCond .eq 5, 3) := by decide +kernel
theorem d_F_isBlocked_58 : decode c_F_isBlocked 58 = .ok (.iconst 1, 1) := by decide +kernel
theorem d_F_isBlocked_59 : decode c_F_isBlocked 59 = .ok (.ireturn, 1) := by decide +kernel
theorem d_F_isBlocked_60 : decode c_F_isBlocked 60 = .ok (.iinc 2 1, 3) := by decide +kernel
theorem d_F_isBlocked_63 : decode c_F_isBlocked 63 = .ok (.goto (-45), 3) := by decide +kernel
theorem d_F_isBlocked_66 : decode c_F_isBlocked 66 = .ok (.iconst 0, 1) := by decide +kernel
theorem d_F_isBlocked_67 : decode c_F_isBlocked 67 = .ok (.ireturn, 1) := by decide +kernel
theorem d_B_init_0 : decode c_B_init 0 = .ok (.aload_n 0, 1) := by decide +kernel
theorem d_B_init_1 : decode c_B_init 1 = .ok (.invokespecial 1, 3) := by decide +kernel
theorem d_B_init_4 : decode c_B_init 4 = .ok (.aload_n 0, 1) := by decide +kernel
theorem d_B_init_5 : decode c_B_init 5 = .ok (.iconst 1, 1) := by decide +kernel
theorem d_B_init_6 : decode c_B_init 6 = .ok (.putfield 7, 3) := by decide +kernel
theorem d_B_init_9 : decode c_B_init 9 = .ok (.return_, 1) := by decide +kernel
theorem d_B_takesOrder_0 : decode c_B_takesOrder 0 = .ok (.aload_n 0, 1) := by decide +kernel
theorem d_B_takesOrder_1 : decode c_B_takesOrder 1 = .ok (.getfield 7, 3) := by decide +kernel
theorem d_B_takesOrder_4 : decode c_B_takesOrder 4 = .ok (.ifCond .eq 14, 3) := by decide +kernel
theorem d_B_takesOrder_7 : decode c_B_takesOrder 7 = .ok (.aload_n 0, 1) := by decide +kernel
theorem d_B_takesOrder_8 : decode c_B_takesOrder 8 = .ok (.getfield 13, 3) := by decide +kernel
theorem d_B_takesOrder_11 : decode c_B_takesOrder 11 = .ok (.ifCond .ne 7, 3) := by decide +kernel
theorem d_B_takesOrder_14 : decode c_B_takesOrder 14 = .ok (.iconst 1, 1) := by decide +kernel
theorem d_B_takesOrder_15 : decode c_B_takesOrder 15 = .ok (.goto 4, 3) := by decide +kernel
theorem d_B_takesOrder_18 : decode c_B_takesOrder 18 = .ok (.iconst 0, 1) := by decide +kernel
theorem d_B_takesOrder_19 : decode c_B_takesOrder 19 = .ok (.ireturn, 1) := by decide +kernel
theorem d_B_giveOrder_0 : decode c_B_giveOrder 0 = .ok (.aload_n 0, 1) := by decide +kernel
theorem d_B_giveOrder_1 : decode c_B_giveOrder 1 = .ok (.iconst 1, 1) := by decide +kernel
theorem d_B_giveOrder_2 : decode c_B_giveOrder 2 = .ok (.putfield 13, 3) := by decide +kernel
theorem d_B_giveOrder_5 : decode c_B_giveOrder 5 = .ok (.aload_n 0, 1) := by decide +kernel
theorem d_B_giveOrder_6 : decode c_B_giveOrder 6 = .ok (.iload_n 2, 1) := by decide +kernel
theorem d_B_giveOrder_7 : decode c_B_giveOrder 7 = .ok (.putfield 16, 3) := by decide +kernel
theorem d_B_giveOrder_10 : decode c_B_giveOrder 10 = .ok (.aload_n 0, 1) := by decide +kernel
theorem d_B_giveOrder_11 : decode c_B_giveOrder 11 = .ok (.iload_n 1, 1) := by decide +kernel
theorem d_B_giveOrder_12 : decode c_B_giveOrder 12 = .ok (.putfield 19, 3) := by decide +kernel
theorem d_B_giveOrder_15 : decode c_B_giveOrder 15 = .ok (.aload_n 0, 1) := by decide +kernel
theorem d_B_giveOrder_16 : decode c_B_giveOrder 16 = .ok (.iconst 0, 1) := by decide +kernel
theorem d_B_giveOrder_17 : decode c_B_giveOrder 17 = .ok (.putfield 23, 3) := by decide +kernel
theorem d_B_giveOrder_20 : decode c_B_giveOrder 20 = .ok (.return_, 1) := by decide +kernel
theorem d_B_isOverdue_0 : decode c_B_isOverdue 0 = .ok (.aload_n 0, 1) := by decide +kernel
theorem d_B_isOverdue_1 : decode c_B_isOverdue 1 = .ok (.getfield 13, 3) := by decide +kernel
theorem d_B_isOverdue_4 : decode c_B_isOverdue 4 = .ok (.ifCond .eq 24, 3) := by decide +kernel
theorem d_B_isOverdue_7 : decode c_B_isOverdue 7 = .ok (.aload_n 0, 1) := by decide +kernel
theorem d_B_isOverdue_8 : decode c_B_isOverdue 8 = .ok (.getfield 23, 3) := by decide +kernel
theorem d_B_isOverdue_11 : decode c_B_isOverdue 11 = .ok (.ifCond .ne 17, 3) := by decide +kernel
theorem d_B_isOverdue_14 : decode c_B_isOverdue 14 = .ok (.iload_n 1, 1) := by decide +kernel
theorem d_B_isOverdue_15 : decode c_B_isOverdue 15 = .ok (.aload_n 0, 1) := by decide +kernel
theorem d_B_isOverdue_16 : decode c_B_isOverdue 16 = .ok (.getfield 19, 3) := by decide +kernel
theorem d_B_isOverdue_19 : decode c_B_isOverdue 19 = .ok (.isub, 1) := by decide +kernel
theorem d_B_isOverdue_20 : decode c_B_isOverdue 20 = .ok (.iload_n 2, 1) := by decide +kernel
theorem d_B_isOverdue_21 : decode c_B_isOverdue 21 = .ok (.if_icmp .lt 7, 3) := by decide +kernel
theorem d_B_isOverdue_24 : decode c_B_isOverdue 24 = .ok (.iconst 1, 1) := by decide +kernel
theorem d_B_isOverdue_25 : decode c_B_isOverdue 25 = .ok (.goto 4, 3) := by decide +kernel
theorem d_B_isOverdue_28 : decode c_B_isOverdue 28 = .ok (.iconst 0, 1) := by decide +kernel
theorem d_B_isOverdue_29 : decode c_B_isOverdue 29 = .ok (.ireturn, 1) := by decide +kernel
theorem d_B_mustOpen_0 : decode c_B_mustOpen 0 = .ok (.aload_n 0, 1) := by decide +kernel
theorem d_B_mustOpen_1 : decode c_B_mustOpen 1 = .ok (.getfield 13, 3) := by decide +kernel
theorem d_B_mustOpen_4 : decode c_B_mustOpen 4 = .ok (.ifCond .eq 24, 3) := by decide +kernel
theorem d_B_mustOpen_7 : decode c_B_mustOpen 7 = .ok (.aload_n 0, 1) := by decide +kernel
theorem d_B_mustOpen_8 : decode c_B_mustOpen 8 = .ok (.getfield 26, 3) := by decide +kernel
theorem d_B_mustOpen_11 : decode c_B_mustOpen 11 = .ok (.ifCond .ne 17, 3) := by decide +kernel
theorem d_B_mustOpen_14 : decode c_B_mustOpen 14 = .ok (.iload_n 1, 1) := by decide +kernel
theorem d_B_mustOpen_15 : decode c_B_mustOpen 15 = .ok (.aload_n 0, 1) := by decide +kernel
theorem d_B_mustOpen_16 : decode c_B_mustOpen 16 = .ok (.getfield 19, 3) := by decide +kernel
theorem d_B_mustOpen_19 : decode c_B_mustOpen 19 = .ok (.isub, 1) := by decide +kernel
theorem d_B_mustOpen_20 : decode c_B_mustOpen 20 = .ok (.iconst 2, 1) := by decide +kernel
theorem d_B_mustOpen_21 : decode c_B_mustOpen 21 = .ok (.if_icmp .lt 7, 3) := by decide +kernel
theorem d_B_mustOpen_24 : decode c_B_mustOpen 24 = .ok (.iconst 1, 1) := by decide +kernel
theorem d_B_mustOpen_25 : decode c_B_mustOpen 25 = .ok (.goto 4, 3) := by decide +kernel
theorem d_B_mustOpen_28 : decode c_B_mustOpen 28 = .ok (.iconst 0, 1) := by decide +kernel
theorem d_B_mustOpen_29 : decode c_B_mustOpen 29 = .ok (.ireturn, 1) := by decide +kernel
theorem d_B_open_0 : decode c_B_open 0 = .ok (.aload_n 0, 1) := by decide +kernel
theorem d_B_open_1 : decode c_B_open 1 = .ok (.iconst 0, 1) := by decide +kernel
theorem d_B_open_2 : decode c_B_open 2 = .ok (.putfield 7, 3) := by decide +kernel
theorem d_B_open_5 : decode c_B_open 5 = .ok (.aload_n 0, 1) := by decide +kernel
theorem d_B_open_6 : decode c_B_open 6 = .ok (.iconst 0, 1) := by decide +kernel
theorem d_B_open_7 : decode c_B_open 7 = .ok (.putfield 13, 3) := by decide +kernel
theorem d_B_open_10 : decode c_B_open 10 = .ok (.return_, 1) := by decide +kernel
theorem d_B_awaitClosing_0 : decode c_B_awaitClosing 0 = .ok (.aload_n 0, 1) := by decide +kernel
theorem d_B_awaitClosing_1 : decode c_B_awaitClosing 1 = .ok (.iconst 1, 1) := by decide +kernel
theorem d_B_awaitClosing_2 : decode c_B_awaitClosing 2 = .ok (.putfield 29, 3) := by decide +kernel
theorem d_B_awaitClosing_5 : decode c_B_awaitClosing 5 = .ok (.aload_n 0, 1) := by decide +kernel
theorem d_B_awaitClosing_6 : decode c_B_awaitClosing 6 = .ok (.iload_n 1, 1) := by decide +kernel
theorem d_B_awaitClosing_7 : decode c_B_awaitClosing 7 = .ok (.aload_n 0, 1) := by decide +kernel
theorem d_B_awaitClosing_8 : decode c_B_awaitClosing 8 = .ok (.getfield 32, 3) := by decide +kernel
theorem d_B_awaitClosing_11 : decode c_B_awaitClosing 11 = .ok (.invokestatic 35, 3) := by decide +kernel
theorem d_B_awaitClosing_14 : decode c_B_awaitClosing 14 = .ok (.iadd, 1) := by decide +kernel
theorem d_B_awaitClosing_15 : decode c_B_awaitClosing 15 = .ok (.putfield 39, 3) := by decide +kernel
theorem d_B_awaitClosing_18 : decode c_B_awaitClosing 18 = .ok (.return_, 1) := by decide +kernel
theorem d_B_mustClose_0 : decode c_B_mustClose 0 = .ok (.aload_n 0, 1) := by decide +kernel
theorem d_B_mustClose_1 : decode c_B_mustClose 1 = .ok (.getfield 29, 3) := by decide +kernel
theorem d_B_mustClose_4 : decode c_B_mustClose 4 = .ok (.ifCond .eq 15, 3) := by decide +kernel
theorem d_B_mustClose_7 : decode c_B_mustClose 7 = .ok (.iload_n 1, 1) := by decide +kernel
theorem d_B_mustClose_8 : decode c_B_mustClose 8 = .ok (.aload_n 0, 1) := by decide +kernel
theorem d_B_mustClose_9 : decode c_B_mustClose 9 = .ok (.getfield 39, 3) := by decide +kernel
theorem d_B_mustClose_12 : decode c_B_mustClose 12 = .ok (.if_icmp .lt 7, 3) := by decide +kernel
theorem d_B_mustClose_15 : decode c_B_mustClose 15 = .ok (.iconst 1, 1) := by decide +kernel
theorem d_B_mustClose_16 : decode c_B_mustClose 16 = .ok (.goto 4, 3) := by decide +kernel
theorem d_B_mustClose_19 : decode c_B_mustClose 19 = .ok (.iconst 0, 1) := by decide +kernel
theorem d_B_mustClose_20 : decode c_B_mustClose 20 = .ok (.ireturn, 1) := by decide +kernel
theorem d_B_closeAgain_0 : decode c_B_closeAgain 0 = .ok (.aload_n 0, 1) := by decide +kernel
theorem d_B_closeAgain_1 : decode c_B_closeAgain 1 = .ok (.iconst 1, 1) := by decide +kernel
theorem d_B_closeAgain_2 : decode c_B_closeAgain 2 = .ok (.putfield 7, 3) := by decide +kernel
theorem d_B_closeAgain_5 : decode c_B_closeAgain 5 = .ok (.aload_n 0, 1) := by decide +kernel
theorem d_B_closeAgain_6 : decode c_B_closeAgain 6 = .ok (.iconst 0, 1) := by decide +kernel
theorem d_B_closeAgain_7 : decode c_B_closeAgain 7 = .ok (.putfield 29, 3) := by decide +kernel
theorem d_B_closeAgain_10 : decode c_B_closeAgain 10 = .ok (.aload_n 0, 1) := by decide +kernel
theorem d_B_closeAgain_11 : decode c_B_closeAgain 11 = .ok (.dup, 1) := by decide +kernel
theorem d_B_closeAgain_12 : decode c_B_closeAgain 12 = .ok (.getfield 32, 3) := by decide +kernel
theorem d_B_closeAgain_15 : decode c_B_closeAgain 15 = .ok (.iconst 1, 1) := by decide +kernel
theorem d_B_closeAgain_16 : decode c_B_closeAgain 16 = .ok (.iadd, 1) := by decide +kernel
theorem d_B_closeAgain_17 : decode c_B_closeAgain 17 = .ok (.putfield 32, 3) := by decide +kernel
theorem d_B_closeAgain_20 : decode c_B_closeAgain 20 = .ok (.aload_n 0, 1) := by decide +kernel
theorem d_B_closeAgain_21 : decode c_B_closeAgain 21 = .ok (.iload_n 1, 1) := by decide +kernel
theorem d_B_closeAgain_22 : decode c_B_closeAgain 22 = .ok (.bipush 30, 2) := by decide +kernel
theorem d_B_closeAgain_24 : decode c_B_closeAgain 24 = .ok (.iadd, 1) := by decide +kernel
theorem d_B_closeAgain_25 : decode c_B_closeAgain 25 = .ok (.putfield 42, 3) := by decide +kernel
theorem d_B_closeAgain_28 : decode c_B_closeAgain 28 = .ok (.return_, 1) := by decide +kernel
theorem d_B_mustReclaim_0 : decode c_B_mustReclaim 0 = .ok (.aload_n 0, 1) := by decide +kernel
theorem d_B_mustReclaim_1 : decode c_B_mustReclaim 1 = .ok (.getfield 32, 3) := by decide +kernel
theorem d_B_mustReclaim_4 : decode c_B_mustReclaim 4 = .ok (.ifCond .le 29, 3) := by decide +kernel
theorem d_B_mustReclaim_7 : decode c_B_mustReclaim 7 = .ok (.aload_n 0, 1) := by decide +kernel
theorem d_B_mustReclaim_8 : decode c_B_mustReclaim 8 = .ok (.getfield 7, 3) := by decide +kernel
theorem d_B_mustReclaim_11 : decode c_B_mustReclaim 11 = .ok (.ifCond .eq 22, 3) := by decide +kernel
theorem d_B_mustReclaim_14 : decode c_B_mustReclaim 14 = .ok (.aload_n 0, 1) := by decide +kernel
theorem d_B_mustReclaim_15 : decode c_B_mustReclaim 15 = .ok (.getfield 13, 3) := by decide +kernel
theorem d_B_mustReclaim_18 : decode c_B_mustReclaim 18 = .ok (.ifCond .ne 15, 3) := by decide +kernel
theorem d_B_mustReclaim_21 : decode c_B_mustReclaim 21 = .ok (.iload_n 1, 1) := by decide +kernel
theorem d_B_mustReclaim_22 : decode c_B_mustReclaim 22 = .ok (.aload_n 0, 1) := by decide +kernel
theorem d_B_mustReclaim_23 : decode c_B_mustReclaim 23 = .ok (.getfield 42, 3) := by decide +kernel
theorem d_B_mustReclaim_26 : decode c_B_mustReclaim 26 = .ok (.if_icmp .lt 7, 3) := by decide +kernel
theorem d_B_mustReclaim_29 : decode c_B_mustReclaim 29 = .ok (.iconst 1, 1) := by decide +kernel
theorem d_B_mustReclaim_30 : decode c_B_mustReclaim 30 = .ok (.goto 4, 3) := by decide +kernel
theorem d_B_mustReclaim_33 : decode c_B_mustReclaim 33 = .ok (.iconst 0, 1) := by decide +kernel
theorem d_B_mustReclaim_34 : decode c_B_mustReclaim 34 = .ok (.ireturn, 1) := by decide +kernel
theorem d_B_forget_0 : decode c_B_forget 0 = .ok (.aload_n 0, 1) := by decide +kernel
theorem d_B_forget_1 : decode c_B_forget 1 = .ok (.iconst 0, 1) := by decide +kernel
theorem d_B_forget_2 : decode c_B_forget 2 = .ok (.putfield 13, 3) := by decide +kernel
theorem d_B_forget_5 : decode c_B_forget 5 = .ok (.aload_n 0, 1) := by decide +kernel
theorem d_B_forget_6 : decode c_B_forget 6 = .ok (.iconst 0, 1) := by decide +kernel
theorem d_B_forget_7 : decode c_B_forget 7 = .ok (.putfield 29, 3) := by decide +kernel
theorem d_B_forget_10 : decode c_B_forget 10 = .ok (.aload_n 0, 1) := by decide +kernel
theorem d_B_forget_11 : decode c_B_forget 11 = .ok (.iconst 0, 1) := by decide +kernel
theorem d_B_forget_12 : decode c_B_forget 12 = .ok (.putfield 32, 3) := by decide +kernel
theorem d_B_forget_15 : decode c_B_forget 15 = .ok (.aload_n 0, 1) := by decide +kernel
theorem d_B_forget_16 : decode c_B_forget 16 = .ok (.aload_n 0, 1) := by decide +kernel
theorem d_B_forget_17 : decode c_B_forget 17 = .ok (.getfield 7, 3) := by decide +kernel
theorem d_B_forget_20 : decode c_B_forget 20 = .ok (.ifCond .ne 7, 3) := by decide +kernel
theorem d_B_forget_23 : decode c_B_forget 23 = .ok (.iconst 1, 1) := by decide +kernel
theorem d_B_forget_24 : decode c_B_forget 24 = .ok (.goto 4, 3) := by decide +kernel
theorem d_B_forget_27 : decode c_B_forget 27 = .ok (.iconst 0, 1) := by decide +kernel
theorem d_B_forget_28 : decode c_B_forget 28 = .ok (.putfield 45, 3) := by decide +kernel
theorem d_B_forget_31 : decode c_B_forget 31 = .ok (.return_, 1) := by decide +kernel
theorem d_B_bits_0 : decode c_B_bits 0 = .ok (.aload_n 0, 1) := by decide +kernel
theorem d_B_bits_1 : decode c_B_bits 1 = .ok (.getfield 7, 3) := by decide +kernel
theorem d_B_bits_4 : decode c_B_bits 4 = .ok (.ifCond .eq 7, 3) := by decide +kernel
theorem d_B_bits_7 : decode c_B_bits 7 = .ok (.iconst 1, 1) := by decide +kernel
theorem d_B_bits_8 : decode c_B_bits 8 = .ok (.goto 4, 3) := by decide +kernel
theorem d_B_bits_11 : decode c_B_bits 11 = .ok (.iconst 0, 1) := by decide +kernel
theorem d_B_bits_12 : decode c_B_bits 12 = .ok (.istore_n 1, 1) := by decide +kernel
theorem d_B_bits_13 : decode c_B_bits 13 = .ok (.iload_n 1, 1) := by decide +kernel
theorem d_B_bits_14 : decode c_B_bits 14 = .ok (.aload_n 0, 1) := by decide +kernel
theorem d_B_bits_15 : decode c_B_bits 15 = .ok (.getfield 13, 3) := by decide +kernel
theorem d_B_bits_18 : decode c_B_bits 18 = .ok (.ifCond .eq 7, 3) := by decide +kernel
theorem d_B_bits_21 : decode c_B_bits 21 = .ok (.iconst 4, 1) := by decide +kernel
theorem d_B_bits_22 : decode c_B_bits 22 = .ok (.goto 4, 3) := by decide +kernel
theorem d_B_bits_25 : decode c_B_bits 25 = .ok (.iconst 0, 1) := by decide +kernel
theorem d_B_bits_26 : decode c_B_bits 26 = .ok (.iadd, 1) := by decide +kernel
theorem d_B_bits_27 : decode c_B_bits 27 = .ok (.istore_n 1, 1) := by decide +kernel
theorem d_B_bits_28 : decode c_B_bits 28 = .ok (.iload_n 1, 1) := by decide +kernel
theorem d_B_bits_29 : decode c_B_bits 29 = .ok (.aload_n 0, 1) := by decide +kernel
theorem d_B_bits_30 : decode c_B_bits 30 = .ok (.getfield 29, 3) := by decide +kernel
theorem d_B_bits_33 : decode c_B_bits 33 = .ok (.ifCond .eq 8, 3) := by decide +kernel
theorem d_B_bits_36 : decode c_B_bits 36 = .ok (.bipush 8, 2) := by decide +kernel
theorem d_B_bits_38 : decode c_B_bits 38 = .ok (.goto 4, 3) := by decide +kernel
theorem d_B_bits_41 : decode c_B_bits 41 = .ok (.iconst 0, 1) := by decide +kernel
theorem d_B_bits_42 : decode c_B_bits 42 = .ok (.iadd, 1) := by decide +kernel
theorem d_B_bits_43 : decode c_B_bits 43 = .ok (.istore_n 1, 1) := by decide +kernel
theorem d_B_bits_44 : decode c_B_bits 44 = .ok (.iload_n 1, 1) := by decide +kernel
theorem d_B_bits_45 : decode c_B_bits 45 = .ok (.aload_n 0, 1) := by decide +kernel
theorem d_B_bits_46 : decode c_B_bits 46 = .ok (.getfield 45, 3) := by decide +kernel
theorem d_B_bits_49 : decode c_B_bits 49 = .ok (.ifCond .eq 8, 3) := by decide +kernel
theorem d_B_bits_52 : decode c_B_bits 52 = .ok (.bipush 16, 2) := by decide +kernel
theorem d_B_bits_54 : decode c_B_bits 54 = .ok (.goto 4, 3) := by decide +kernel
theorem d_B_bits_57 : decode c_B_bits 57 = .ok (.iconst 0, 1) := by decide +kernel
theorem d_B_bits_58 : decode c_B_bits 58 = .ok (.iadd, 1) := by decide +kernel
theorem d_B_bits_59 : decode c_B_bits 59 = .ok (.istore_n 1, 1) := by decide +kernel
theorem d_B_bits_60 : decode c_B_bits 60 = .ok (.iload_n 1, 1) := by decide +kernel
theorem d_B_bits_61 : decode c_B_bits 61 = .ok (.aload_n 0, 1) := by decide +kernel
theorem d_B_bits_62 : decode c_B_bits 62 = .ok (.getfield 26, 3) := by decide +kernel
theorem d_B_bits_65 : decode c_B_bits 65 = .ok (.ifCond .eq 8, 3) := by decide +kernel
theorem d_B_bits_68 : decode c_B_bits 68 = .ok (.bipush 32, 2) := by decide +kernel
theorem d_B_bits_70 : decode c_B_bits 70 = .ok (.goto 4, 3) := by decide +kernel
theorem d_B_bits_73 : decode c_B_bits 73 = .ok (.iconst 0, 1) := by decide +kernel
theorem d_B_bits_74 : decode c_B_bits 74 = .ok (.iadd, 1) := by decide +kernel
theorem d_B_bits_75 : decode c_B_bits 75 = .ok (.istore_n 1, 1) := by decide +kernel
theorem d_B_bits_76 : decode c_B_bits 76 = .ok (.iload_n 1, 1) := by decide +kernel
theorem d_B_bits_77 : decode c_B_bits 77 = .ok (.ireturn, 1) := by decide +kernel
theorem d_B_pauseAfter_0 : decode c_B_pauseAfter 0 = .ok (.iload_n 0, 1) := by decide +kernel
theorem d_B_pauseAfter_1 : decode c_B_pauseAfter 1 = .ok (.ifCond .ne 5, 3) := by decide +kernel
theorem d_B_pauseAfter_4 : decode c_B_pauseAfter 4 = .ok (.iconst 5, 1) := by decide +kernel
theorem d_B_pauseAfter_5 : decode c_B_pauseAfter 5 = .ok (.ireturn, 1) := by decide +kernel
theorem d_B_pauseAfter_6 : decode c_B_pauseAfter 6 = .ok (.iload_n 0, 1) := by decide +kernel
theorem d_B_pauseAfter_7 : decode c_B_pauseAfter 7 = .ok (.iconst 1, 1) := by decide +kernel
theorem d_B_pauseAfter_8 : decode c_B_pauseAfter 8 = .ok (.if_icmp .ne 8, 3) := by decide +kernel
theorem d_B_pauseAfter_11 : decode c_B_pauseAfter 11 = .ok (.bipush 20, 2) := by decide +kernel
theorem d_B_pauseAfter_13 : decode c_B_pauseAfter 13 = .ok (.goto 5, 3) := by decide +kernel
theorem d_B_pauseAfter_16 : decode c_B_pauseAfter 16 = .ok (.bipush 50, 2) := by decide +kernel
theorem d_B_pauseAfter_18 : decode c_B_pauseAfter 18 = .ok (.ireturn, 1) := by decide +kernel
theorem d_J_init_0 : decode c_J_init 0 = .ok (.aload_n 0, 1) := by decide +kernel
theorem d_J_init_1 : decode c_J_init 1 = .ok (.invokespecial 1, 3) := by decide +kernel
theorem d_J_init_4 : decode c_J_init 4 = .ok (.aload_n 0, 1) := by decide +kernel
theorem d_J_init_5 : decode c_J_init 5 = .ok (.sipush 200, 3) := by decide +kernel
theorem d_J_init_8 : decode c_J_init 8 = .ok (.newarray .int, 2) := by decide +kernel
theorem d_J_init_10 : decode c_J_init 10 = .ok (.putfield 9, 3) := by decide +kernel
theorem d_J_init_13 : decode c_J_init 13 = .ok (.aload_n 0, 1) := by decide +kernel
theorem d_J_init_14 : decode c_J_init 14 = .ok (.sipush 200, 3) := by decide +kernel
theorem d_J_init_17 : decode c_J_init 17 = .ok (.newarray .int, 2) := by decide +kernel
theorem d_J_init_19 : decode c_J_init 19 = .ok (.putfield 13, 3) := by decide +kernel
theorem d_J_init_22 : decode c_J_init 22 = .ok (.return_, 1) := by decide +kernel
theorem d_J_add_0 : decode c_J_add 0 = .ok (.aload_n 0, 1) := by decide +kernel
theorem d_J_add_1 : decode c_J_add 1 = .ok (.getfield 16, 3) := by decide +kernel
theorem d_J_add_4 : decode c_J_add 4 = .ok (.sipush 200, 3) := by decide +kernel
theorem d_J_add_7 : decode c_J_add 7 = .ok (.if_icmp .ge 38, 3) := by decide +kernel
theorem d_J_add_10 : decode c_J_add 10 = .ok (.aload_n 0, 1) := by decide +kernel
theorem d_J_add_11 : decode c_J_add 11 = .ok (.getfield 9, 3) := by decide +kernel
theorem d_J_add_14 : decode c_J_add 14 = .ok (.aload_n 0, 1) := by decide +kernel
theorem d_J_add_15 : decode c_J_add 15 = .ok (.getfield 16, 3) := by decide +kernel
theorem d_J_add_18 : decode c_J_add 18 = .ok (.iload_n 1, 1) := by decide +kernel
theorem d_J_add_19 : decode c_J_add 19 = .ok (.bipush 8, 2) := by decide +kernel
theorem d_J_add_21 : decode c_J_add 21 = .ok (.iload_n 2, 1) := by decide +kernel
theorem d_J_add_22 : decode c_J_add 22 = .ok (.imul, 1) := by decide +kernel
theorem d_J_add_23 : decode c_J_add 23 = .ok (.iadd, 1) := by decide +kernel
theorem d_J_add_24 : decode c_J_add 24 = .ok (.iastore, 1) := by decide +kernel
theorem d_J_add_25 : decode c_J_add 25 = .ok (.aload_n 0, 1) := by decide +kernel
theorem d_J_add_26 : decode c_J_add 26 = .ok (.getfield 13, 3) := by decide +kernel
theorem d_J_add_29 : decode c_J_add 29 = .ok (.aload_n 0, 1) := by decide +kernel
theorem d_J_add_30 : decode c_J_add 30 = .ok (.getfield 16, 3) := by decide +kernel
theorem d_J_add_33 : decode c_J_add 33 = .ok (.iload_n 3, 1) := by decide +kernel
theorem d_J_add_34 : decode c_J_add 34 = .ok (.iastore, 1) := by decide +kernel
theorem d_J_add_35 : decode c_J_add 35 = .ok (.aload_n 0, 1) := by decide +kernel
theorem d_J_add_36 : decode c_J_add 36 = .ok (.dup, 1) := by decide +kernel
theorem d_J_add_37 : decode c_J_add 37 = .ok (.getfield 16, 3) := by decide +kernel
theorem d_J_add_40 : decode c_J_add 40 = .ok (.iconst 1, 1) := by decide +kernel
theorem d_J_add_41 : decode c_J_add 41 = .ok (.iadd, 1) := by decide +kernel
theorem d_J_add_42 : decode c_J_add 42 = .ok (.putfield 16, 3) := by decide +kernel
theorem d_J_add_45 : decode c_J_add 45 = .ok (.return_, 1) := by decide +kernel
theorem d_J_has_0 : decode c_J_has 0 = .ok (.iload_n 1, 1) := by decide +kernel
theorem d_J_has_1 : decode c_J_has 1 = .ok (.ifCond .lt 15, 3) := by decide +kernel
theorem d_J_has_4 : decode c_J_has 4 = .ok (.iload_n 1, 1) := by decide +kernel
theorem d_J_has_5 : decode c_J_has 5 = .ok (.aload_n 0, 1) := by decide +kernel
theorem d_J_has_6 : decode c_J_has 6 = .ok (.getfield 16, 3) := by decide +kernel
theorem d_J_has_9 : decode c_J_has 9 = .ok (.if_icmp .ge 7, 3) := by decide +kernel
theorem d_J_has_12 : decode c_J_has 12 = .ok (.iconst 1, 1) := by decide +kernel
theorem d_J_has_13 : decode c_J_has 13 = .ok (.goto 4, 3) := by decide +kernel
theorem d_J_has_16 : decode c_J_has 16 = .ok (.iconst 0, 1) := by decide +kernel
theorem d_J_has_17 : decode c_J_has 17 = .ok (.ireturn, 1) := by decide +kernel
theorem d_J_store_0 : decode c_J_store 0 = .ok (.aload_n 0, 1) := by decide +kernel
theorem d_J_store_1 : decode c_J_store 1 = .ok (.aload_n 0, 1) := by decide +kernel
theorem d_J_store_2 : decode c_J_store 2 = .ok (.getfield 20, 3) := by decide +kernel
theorem d_J_store_5 : decode c_J_store 5 = .ok (.iconst 2, 1) := by decide +kernel
theorem d_J_store_6 : decode c_J_store 6 = .ok (.iadd, 1) := by decide +kernel
theorem d_J_store_7 : decode c_J_store 7 = .ok (.aload_n 0, 1) := by decide +kernel
theorem d_J_store_8 : decode c_J_store 8 = .ok (.getfield 16, 3) := by decide +kernel
theorem d_J_store_11 : decode c_J_store 11 = .ok (.invokestatic 23, 3) := by decide +kernel
theorem d_J_store_14 : decode c_J_store 14 = .ok (.putfield 20, 3) := by decide +kernel
theorem d_J_store_17 : decode c_J_store 17 = .ok (.return_, 1) := by decide +kernel
theorem d_J_dropUnstored_0 : decode c_J_dropUnstored 0 = .ok (.aload_n 0, 1) := by decide +kernel
theorem d_J_dropUnstored_1 : decode c_J_dropUnstored 1 = .ok (.getfield 16, 3) := by decide +kernel
theorem d_J_dropUnstored_4 : decode c_J_dropUnstored 4 = .ok (.aload_n 0, 1) := by decide +kernel
theorem d_J_dropUnstored_5 : decode c_J_dropUnstored 5 = .ok (.getfield 20, 3) := by decide +kernel
theorem d_J_dropUnstored_8 : decode c_J_dropUnstored 8 = .ok (.isub, 1) := by decide +kernel
theorem d_J_dropUnstored_9 : decode c_J_dropUnstored 9 = .ok (.istore_n 1, 1) := by decide +kernel
theorem d_J_dropUnstored_10 : decode c_J_dropUnstored 10 = .ok (.aload_n 0, 1) := by decide +kernel
theorem d_J_dropUnstored_11 : decode c_J_dropUnstored 11 = .ok (.aload_n 0, 1) := by decide +kernel
theorem d_J_dropUnstored_12 : decode c_J_dropUnstored 12 = .ok (.getfield 20, 3) := by decide +kernel
theorem d_J_dropUnstored_15 : decode c_J_dropUnstored 15 = .ok (.putfield 16, 3) := by decide +kernel
theorem d_J_dropUnstored_18 : decode c_J_dropUnstored 18 = .ok (.iload_n 1, 1) := by decide +kernel
theorem d_J_dropUnstored_19 : decode c_J_dropUnstored 19 = .ok (.ireturn, 1) := by decide +kernel
theorem d_M_init_0 : decode c_M_init 0 = .ok (.aload_n 0, 1) := by decide +kernel
theorem d_M_init_1 : decode c_M_init 1 = .ok (.invokespecial 1, 3) := by decide +kernel
theorem d_M_init_4 : decode c_M_init 4 = .ok (.aload_n 0, 1) := by decide +kernel
theorem d_M_init_5 : decode c_M_init 5 = .ok (.iconst 4, 1) := by decide +kernel
theorem d_M_init_6 : decode c_M_init 6 = .ok (.newarray .int, 2) := by decide +kernel
theorem d_M_init_8 : decode c_M_init 8 = .ok (.putfield 9, 3) := by decide +kernel
theorem d_M_init_11 : decode c_M_init 11 = .ok (.aload_n 0, 1) := by decide +kernel
theorem d_M_init_12 : decode c_M_init 12 = .ok (.bipush 100, 2) := by decide +kernel
theorem d_M_init_14 : decode c_M_init 14 = .ok (.putfield 13, 3) := by decide +kernel
theorem d_M_init_17 : decode c_M_init 17 = .ok (.aload_n 0, 1) := by decide +kernel
theorem d_M_init_18 : decode c_M_init 18 = .ok (.iconst 5, 1) := by decide +kernel
theorem d_M_init_19 : decode c_M_init 19 = .ok (.putfield 17, 3) := by decide +kernel
theorem d_M_init_22 : decode c_M_init 22 = .ok (.return_, 1) := by decide +kernel
theorem d_M_set_0 : decode c_M_set 0 = .ok (.aload_n 0, 1) := by decide +kernel
theorem d_M_set_1 : decode c_M_set 1 = .ok (.iload_n 1, 1) := by decide +kernel
theorem d_M_set_2 : decode c_M_set 2 = .ok (.putfield 20, 3) := by decide +kernel
theorem d_M_set_5 : decode c_M_set 5 = .ok (.aload_n 0, 1) := by decide +kernel
theorem d_M_set_6 : decode c_M_set 6 = .ok (.iload_n 2, 1) := by decide +kernel
theorem d_M_set_7 : decode c_M_set 7 = .ok (.putfield 13, 3) := by decide +kernel
theorem d_M_set_10 : decode c_M_set 10 = .ok (.aload_n 0, 1) := by decide +kernel
theorem d_M_set_11 : decode c_M_set 11 = .ok (.iload_n 3, 1) := by decide +kernel
theorem d_M_set_12 : decode c_M_set 12 = .ok (.putfield 17, 3) := by decide +kernel
theorem d_M_set_15 : decode c_M_set 15 = .ok (.return_, 1) := by decide +kernel
theorem d_M_measure_0 : decode c_M_measure 0 = .ok (.aload_n 0, 1) := by decide +kernel
theorem d_M_measure_1 : decode c_M_measure 1 = .ok (.getfield 9, 3) := by decide +kernel
theorem d_M_measure_4 : decode c_M_measure 4 = .ok (.aload_n 0, 1) := by decide +kernel
theorem d_M_measure_5 : decode c_M_measure 5 = .ok (.getfield 23, 3) := by decide +kernel
theorem d_M_measure_8 : decode c_M_measure 8 = .ok (.iload_n 1, 1) := by decide +kernel
theorem d_M_measure_9 : decode c_M_measure 9 = .ok (.iastore, 1) := by decide +kernel
theorem d_M_measure_10 : decode c_M_measure 10 = .ok (.aload_n 0, 1) := by decide +kernel
theorem d_M_measure_11 : decode c_M_measure 11 = .ok (.aload_n 0, 1) := by decide +kernel
theorem d_M_measure_12 : decode c_M_measure 12 = .ok (.getfield 23, 3) := by decide +kernel
theorem d_M_measure_15 : decode c_M_measure 15 = .ok (.iconst 1, 1) := by decide +kernel
theorem d_M_measure_16 : decode c_M_measure 16 = .ok (.iadd, 1) := by decide +kernel
theorem d_M_measure_17 : decode c_M_measure 17 = .ok (.iconst 4, 1) := by decide +kernel
theorem d_M_measure_18 : decode c_M_measure 18 = .ok (.irem, 1) := by decide +kernel
theorem d_M_measure_19 : decode c_M_measure 19 = .ok (.putfield 23, 3) := by decide +kernel
theorem d_M_measure_22 : decode c_M_measure 22 = .ok (.aload_n 0, 1) := by decide +kernel
theorem d_M_measure_23 : decode c_M_measure 23 = .ok (.aload_n 0, 1) := by decide +kernel
theorem d_M_measure_24 : decode c_M_measure 24 = .ok (.invokevirtual 26, 3) := by decide +kernel
theorem d_M_measure_27 : decode c_M_measure 27 = .ok (.putfield 30, 3) := by decide +kernel
theorem d_M_measure_30 : decode c_M_measure 30 = .ok (.aload_n 0, 1) := by decide +kernel
theorem d_M_measure_31 : decode c_M_measure 31 = .ok (.aload_n 0, 1) := by decide +kernel
theorem d_M_measure_32 : decode c_M_measure 32 = .ok (.getfield 30, 3) := by decide +kernel
theorem d_M_measure_35 : decode c_M_measure 35 = .ok (.aload_n 0, 1) := by decide +kernel
theorem d_M_measure_36 : decode c_M_measure 36 = .ok (.getfield 13, 3) := by decide +kernel
theorem d_M_measure_39 : decode c_M_measure 39 = .ok (.if_icmp .le 7, 3) := by decide +kernel
theorem d_M_measure_42 : decode c_M_measure 42 = .ok (.iconst 1, 1) := by decide +kernel
theorem d_M_measure_43 : decode c_M_measure 43 = .ok (.goto 4, 3) := by decide +kernel
theorem d_M_measure_46 : decode c_M_measure 46 = .ok (.iconst 0, 1) := by decide +kernel
theorem d_M_measure_47 : decode c_M_measure 47 = .ok (.putfield 33, 3) := by decide +kernel
theorem d_M_measure_50 : decode c_M_measure 50 = .ok (.aload_n 0, 1) := by decide +kernel
theorem d_M_measure_51 : decode c_M_measure 51 = .ok (.aload_n 0, 1) := by decide +kernel
theorem d_M_measure_52 : decode c_M_measure 52 = .ok (.getfield 33, 3) := by decide +kernel
theorem d_M_measure_55 : decode c_M_measure 55 = .ok (.ifCond .eq 15, 3) := by decide +kernel
theorem d_M_measure_58 : decode c_M_measure 58 = .ok (.aload_n 0, 1) := by decide +kernel
theorem d_M_measure_59 : decode c_M_measure 59 = .ok (.getfield 37, 3) := by decide +kernel
theorem d_M_measure_62 : decode c_M_measure 62 = .ok (.aload_n 0, 1) := by decide +kernel
theorem d_M_measure_63 : decode c_M_measure 63 = .ok (.invokevirtual 41, 3) := by decide +kernel
theorem d_M_measure_66 : decode c_M_measure 66 = .ok (.ladd, 1) := by decide +kernel
theorem d_M_measure_67 : decode c_M_measure 67 = .ok (.goto 4, 3) := by decide +kernel
theorem d_M_measure_70 : decode c_M_measure 70 = .ok (.lconst 0, 1) := by decide +kernel
theorem d_M_measure_71 : decode c_M_measure 71 = .ok (.putfield 37, 3) := by decide +kernel
theorem d_M_measure_74 : decode c_M_measure 74 = .ok (.return_, 1) := by decide +kernel
theorem d_M_isOverLimit_0 : decode c_M_isOverLimit 0 = .ok (.aload_n 0, 1) := by decide +kernel
theorem d_M_isOverLimit_1 : decode c_M_isOverLimit 1 = .ok (.getfield 33, 3) := by decide +kernel
theorem d_M_isOverLimit_4 : decode c_M_isOverLimit 4 = .ok (.ifCond .eq 19, 3) := by decide +kernel
theorem d_M_isOverLimit_7 : decode c_M_isOverLimit 7 = .ok (.aload_n 0, 1) := by decide +kernel
theorem d_M_isOverLimit_8 : decode c_M_isOverLimit 8 = .ok (.getfield 37, 3) := by decide +kernel
theorem d_M_isOverLimit_11 : decode c_M_isOverLimit 11 = .ok (.aload_n 0, 1) := by decide +kernel
theorem d_M_isOverLimit_12 : decode c_M_isOverLimit 12 = .ok (.invokevirtual 45, 3) := by decide +kernel
theorem d_M_isOverLimit_15 : decode c_M_isOverLimit 15 = .ok (.lcmp, 1) := by decide +kernel
theorem d_M_isOverLimit_16 : decode c_M_isOverLimit 16 = .ok (.ifCond .lt 7, 3) := by decide +kernel
theorem d_M_isOverLimit_19 : decode c_M_isOverLimit 19 = .ok (.iconst 1, 1) := by decide +kernel
theorem d_M_isOverLimit_20 : decode c_M_isOverLimit 20 = .ok (.goto 4, 3) := by decide +kernel
theorem d_M_isOverLimit_23 : decode c_M_isOverLimit 23 = .ok (.iconst 0, 1) := by decide +kernel
theorem d_M_isOverLimit_24 : decode c_M_isOverLimit 24 = .ok (.ireturn, 1) := by decide +kernel
theorem d_M_forget_0 : decode c_M_forget 0 = .ok (.aload_n 0, 1) := by decide +kernel
theorem d_M_forget_1 : decode c_M_forget 1 = .ok (.getfield 9, 3) := by decide +kernel
theorem d_M_forget_4 : decode c_M_forget 4 = .ok (.iconst 0, 1) := by decide +kernel
theorem d_M_forget_5 : decode c_M_forget 5 = .ok (.invokestatic 48, 3) := by decide +kernel
theorem d_M_forget_8 : decode c_M_forget 8 = .ok (.aload_n 0, 1) := by decide +kernel
theorem d_M_forget_9 : decode c_M_forget 9 = .ok (.iconst 0, 1) := by decide +kernel
theorem d_M_forget_10 : decode c_M_forget 10 = .ok (.putfield 30, 3) := by decide +kernel
theorem d_M_forget_13 : decode c_M_forget 13 = .ok (.aload_n 0, 1) := by decide +kernel
theorem d_M_forget_14 : decode c_M_forget 14 = .ok (.iconst 0, 1) := by decide +kernel
theorem d_M_forget_15 : decode c_M_forget 15 = .ok (.putfield 33, 3) := by decide +kernel
theorem d_M_forget_18 : decode c_M_forget 18 = .ok (.aload_n 0, 1) := by decide +kernel
theorem d_M_forget_19 : decode c_M_forget 19 = .ok (.lconst 0, 1) := by decide +kernel
theorem d_M_forget_20 : decode c_M_forget 20 = .ok (.putfield 37, 3) := by decide +kernel
theorem d_M_forget_23 : decode c_M_forget 23 = .ok (.return_, 1) := by decide +kernel
theorem d_M_growth_0 : decode c_M_growth 0 = .ok (.aload_n 0, 1) := by decide +kernel
theorem d_M_growth_1 : decode c_M_growth 1 = .ok (.getfield 20, 3) := by decide +kernel
theorem d_M_growth_4 : decode c_M_growth 4 = .ok (.ifCond .ne 5, 3) := by decide +kernel
theorem d_M_growth_7 : decode c_M_growth 7 = .ok (.lconst 1, 1) := by decide +kernel
theorem d_M_growth_8 : decode c_M_growth 8 = .ok (.lreturn, 1) := by decide +kernel
theorem d_M_growth_9 : decode c_M_growth 9 = .ok (.aload_n 0, 1) := by decide +kernel
theorem d_M_growth_10 : decode c_M_growth 10 = .ok (.getfield 20, 3) := by decide +kernel
theorem d_M_growth_13 : decode c_M_growth 13 = .ok (.iconst 1, 1) := by decide +kernel
theorem d_M_growth_14 : decode c_M_growth 14 = .ok (.if_icmp .ne 14, 3) := by decide +kernel
theorem d_M_growth_17 : decode c_M_growth 17 = .ok (.aload_n 0, 1) := by decide +kernel
theorem d_M_growth_18 : decode c_M_growth 18 = .ok (.getfield 30, 3) := by decide +kernel
theorem d_M_growth_21 : decode c_M_growth 21 = .ok (.aload_n 0, 1) := by decide +kernel
theorem d_M_growth_22 : decode c_M_growth 22 = .ok (.getfield 13, 3) := by decide +kernel
theorem d_M_growth_25 : decode c_M_growth 25 = .ok (.isub, 1) := by decide +kernel
theorem d_M_growth_26 : decode c_M_growth 26 = .ok (.i2l, 1) := by decide +kernel
theorem d_M_growth_27 : decode c_M_growth 27 = .ok (.lreturn, 1) := by decide +kernel
theorem d_M_growth_28 : decode c_M_growth 28 = .ok (.aload_n 0, 1) := by decide +kernel
theorem d_M_growth_29 : decode c_M_growth 29 = .ok (.getfield 30, 3) := by decide +kernel
theorem d_M_growth_32 : decode c_M_growth 32 = .ok (.i2l, 1) := by decide +kernel
theorem d_M_growth_33 : decode c_M_growth 33 = .ok (.aload_n 0, 1) := by decide +kernel
theorem d_M_growth_34 : decode c_M_growth 34 = .ok (.getfield 30, 3) := by decide +kernel
theorem d_M_growth_37 : decode c_M_growth 37 = .ok (.i2l, 1) := by decide +kernel
theorem d_M_growth_38 : decode c_M_growth 38 = .ok (.lmul, 1) := by decide +kernel
theorem d_M_growth_39 : decode c_M_growth 39 = .ok (.aload_n 0, 1) := by decide +kernel
theorem d_M_growth_40 : decode c_M_growth 40 = .ok (.getfield 13, 3) := by decide +kernel
theorem d_M_growth_43 : decode c_M_growth 43 = .ok (.i2l, 1) := by decide +kernel
theorem d_M_growth_44 : decode c_M_growth 44 = .ok (.aload_n 0, 1) := by decide +kernel
theorem d_M_growth_45 : decode c_M_growth 45 = .ok (.getfield 13, 3) := by decide +kernel
theorem d_M_growth_48 : decode c_M_growth 48 = .ok (.i2l, 1) := by decide +kernel
theorem d_M_growth_49 : decode c_M_growth 49 = .ok (.lmul, 1) := by decide +kernel
theorem d_M_growth_50 : decode c_M_growth 50 = .ok (.lsub, 1) := by decide +kernel
theorem d_M_growth_51 : decode c_M_growth 51 = .ok (.lreturn, 1) := by decide +kernel
theorem d_M_limit_0 : decode c_M_limit 0 = .ok (.aload_n 0, 1) := by decide +kernel
theorem d_M_limit_1 : decode c_M_limit 1 = .ok (.getfield 20, 3) := by decide +kernel
theorem d_M_limit_4 : decode c_M_limit 4 = .ok (.ifCond .ne 9, 3) := by decide +kernel
theorem d_M_limit_7 : decode c_M_limit 7 = .ok (.aload_n 0, 1) := by decide +kernel
theorem d_M_limit_8 : decode c_M_limit 8 = .ok (.getfield 17, 3) := by decide +kernel
theorem d_M_limit_11 : decode c_M_limit 11 = .ok (.i2l, 1) := by decide +kernel
theorem d_M_limit_12 : decode c_M_limit 12 = .ok (.lreturn, 1) := by decide +kernel
theorem d_M_limit_13 : decode c_M_limit 13 = .ok (.aload_n 0, 1) := by decide +kernel
theorem d_M_limit_14 : decode c_M_limit 14 = .ok (.getfield 20, 3) := by decide +kernel
theorem d_M_limit_17 : decode c_M_limit 17 = .ok (.iconst 1, 1) := by decide +kernel
theorem d_M_limit_18 : decode c_M_limit 18 = .ok (.if_icmp .ne 15, 3) := by decide +kernel
theorem d_M_limit_21 : decode c_M_limit 21 = .ok (.aload_n 0, 1) := by decide +kernel
theorem d_M_limit_22 : decode c_M_limit 22 = .ok (.getfield 17, 3) := by decide +kernel
theorem d_M_limit_25 : decode c_M_limit 25 = .ok (.i2l, 1) := by decide +kernel
theorem d_M_limit_26 : decode c_M_limit 26 = .ok (.aload_n 0, 1) := by decide +kernel
theorem d_M_limit_27 : decode c_M_limit 27 = .ok (.getfield 13, 3) := by decide +kernel
theorem d_M_limit_30 : decode c_M_limit 30 = .ok (.i2l, 1) := by decide +kernel
theorem d_M_limit_31 : decode c_M_limit 31 = .ok (.lmul, 1) := by decide +kernel
theorem d_M_limit_32 : decode c_M_limit 32 = .ok (.lreturn, 1) := by decide +kernel
theorem d_M_limit_33 : decode c_M_limit 33 = .ok (.aload_n 0, 1) := by decide +kernel
theorem d_M_limit_34 : decode c_M_limit 34 = .ok (.getfield 17, 3) := by decide +kernel
theorem d_M_limit_37 : decode c_M_limit 37 = .ok (.i2l, 1) := by decide +kernel
theorem d_M_limit_38 : decode c_M_limit 38 = .ok (.aload_n 0, 1) := by decide +kernel
theorem d_M_limit_39 : decode c_M_limit 39 = .ok (.getfield 13, 3) := by decide +kernel
theorem d_M_limit_42 : decode c_M_limit 42 = .ok (.i2l, 1) := by decide +kernel
theorem d_M_limit_43 : decode c_M_limit 43 = .ok (.lmul, 1) := by decide +kernel
theorem d_M_limit_44 : decode c_M_limit 44 = .ok (.aload_n 0, 1) := by decide +kernel
theorem d_M_limit_45 : decode c_M_limit 45 = .ok (.getfield 13, 3) := by decide +kernel
theorem d_M_limit_48 : decode c_M_limit 48 = .ok (.i2l, 1) := by decide +kernel
theorem d_M_limit_49 : decode c_M_limit 49 = .ok (.lmul, 1) := by decide +kernel
theorem d_M_limit_50 : decode c_M_limit 50 = .ok (.lreturn, 1) := by decide +kernel
theorem d_M_rootOfMeanSquare_0 : decode c_M_rootOfMeanSquare 0 = .ok (.lconst 0, 1) := by decide +kernel
theorem d_M_rootOfMeanSquare_1 : decode c_M_rootOfMeanSquare 1 = .ok (.lstore_n 1, 1) := by decide +kernel
theorem d_M_rootOfMeanSquare_2 : decode c_M_rootOfMeanSquare 2 = .ok (.iconst 0, 1) := by decide +kernel
theorem d_M_rootOfMeanSquare_3 : decode c_M_rootOfMeanSquare 3 = .ok (.istore_n 3, 1) := by decide +kernel
theorem d_M_rootOfMeanSquare_4 : decode c_M_rootOfMeanSquare 4 = .ok (.iload_n 3, 1) := by decide +kernel
theorem d_M_rootOfMeanSquare_5 : decode c_M_rootOfMeanSquare 5 = .ok (.iconst 4, 1) := by decide +kernel
theorem d_M_rootOfMeanSquare_6 : decode c_M_rootOfMeanSquare 6 = .ok (.if_icmp .ge 27, 3) := by decide +kernel
theorem d_M_rootOfMeanSquare_9 : decode c_M_rootOfMeanSquare 9 = .ok (.lload_n 1, 1) := by decide +kernel
theorem d_M_rootOfMeanSquare_10 : decode c_M_rootOfMeanSquare 10 = .ok (.aload_n 0, 1) := by decide +kernel
theorem d_M_rootOfMeanSquare_11 : decode c_M_rootOfMeanSquare 11 = .ok (.getfield 9, 3) := by decide +kernel
theorem d_M_rootOfMeanSquare_14 : decode c_M_rootOfMeanSquare 14 = .ok (.iload_n 3, 1) := by decide +kernel
theorem d_M_rootOfMeanSquare_15 : decode c_M_rootOfMeanSquare 15 = .ok (.iaload, 1) := by decide +kernel
theorem d_M_rootOfMeanSquare_16 : decode c_M_rootOfMeanSquare 16 = .ok (.i2l, 1) := by decide +kernel
theorem d_M_rootOfMeanSquare_17 : decode c_M_rootOfMeanSquare 17 = .ok (.aload_n 0, 1) := by decide +kernel
theorem d_M_rootOfMeanSquare_18 : decode c_M_rootOfMeanSquare 18 = .ok (.getfield 9, 3) := by decide +kernel
theorem d_M_rootOfMeanSquare_21 : decode c_M_rootOfMeanSquare 21 = .ok (.iload_n 3, 1) := by decide +kernel
theorem d_M_rootOfMeanSquare_22 : decode c_M_rootOfMeanSquare 22 = .ok (.iaload, 1) := by decide +kernel
theorem d_M_rootOfMeanSquare_23 : decode c_M_rootOfMeanSquare 23 = .ok (.i2l, 1) := by decide +kernel
theorem d_M_rootOfMeanSquare_24 : decode c_M_rootOfMeanSquare 24 = .ok (.lmul, 1) := by decide +kernel
theorem d_M_rootOfMeanSquare_25 : decode c_M_rootOfMeanSquare 25 = .ok (.ladd, 1) := by decide +kernel
theorem d_M_rootOfMeanSquare_26 : decode c_M_rootOfMeanSquare 26 = .ok (.lstore_n 1, 1) := by decide +kernel
theorem d_M_rootOfMeanSquare_27 : decode c_M_rootOfMeanSquare 27 = .ok (.iinc 3 1, 3) := by decide +kernel
theorem d_M_rootOfMeanSquare_30 : decode c_M_rootOfMeanSquare 30 = .ok (.goto (-26), 3) := by decide +kernel
theorem d_M_rootOfMeanSquare_33 : decode c_M_rootOfMeanSquare 33 = .ok (.lload_n 1, 1) := by decide +kernel
theorem d_M_rootOfMeanSquare_34 : decode c_M_rootOfMeanSquare 34 = .ok (.ldc2_w 54, 3) := by decide +kernel
theorem d_M_rootOfMeanSquare_37 : decode c_M_rootOfMeanSquare 37 = .ok (.ldiv, 1) := by decide +kernel
theorem d_M_rootOfMeanSquare_38 : decode c_M_rootOfMeanSquare 38 = .ok (.lstore_n 3, 1) := by decide +kernel
theorem d_M_rootOfMeanSquare_39 : decode c_M_rootOfMeanSquare 39 = .ok (.iconst 0, 1) := by decide +kernel
theorem d_M_rootOfMeanSquare_40 : decode c_M_rootOfMeanSquare 40 = .ok (.istore 5, 2) := by decide +kernel
theorem d_M_rootOfMeanSquare_42 : decode c_M_rootOfMeanSquare 42 = .ok (.ldc 56, 2) := by decide +kernel
theorem d_M_rootOfMeanSquare_44 : decode c_M_rootOfMeanSquare 44 = .ok (.istore 6, 2) := by decide +kernel
theorem d_M_rootOfMeanSquare_46 : decode c_M_rootOfMeanSquare 46 = .ok (.iload 6, 2) := by decide +kernel
theorem d_M_rootOfMeanSquare_48 : decode c_M_rootOfMeanSquare 48 = .ok (.ifCond .le 37, 3) := by decide +kernel
theorem d_M_rootOfMeanSquare_51 : decode c_M_rootOfMeanSquare 51 = .ok (.iload 5, 2) := by decide +kernel
theorem d_M_rootOfMeanSquare_53 : decode c_M_rootOfMeanSquare 53 = .ok (.iload 6, 2) := by decide +kernel
theorem d_M_rootOfMeanSquare_55 : decode c_M_rootOfMeanSquare 55 = .ok (.iadd, 1) := by decide +kernel
theorem d_M_rootOfMeanSquare_56 : decode c_M_rootOfMeanSquare 56 = .ok (.i2l, 1) := by decide +kernel
theorem d_M_rootOfMeanSquare_57 : decode c_M_rootOfMeanSquare 57 = .ok (.lstore 7, 2) := by decide +kernel
theorem d_M_rootOfMeanSquare_59 : decode c_M_rootOfMeanSquare 59 = .ok (.lload 7, 2) := by decide +kernel
theorem d_M_rootOfMeanSquare_61 : decode c_M_rootOfMeanSquare 61 = .ok (.lload 7, 2) := by decide +kernel
theorem d_M_rootOfMeanSquare_63 : decode c_M_rootOfMeanSquare 63 = .ok (.lmul, 1) := by decide +kernel
theorem d_M_rootOfMeanSquare_64 : decode c_M_rootOfMeanSquare 64 = .ok (.lload_n 3, 1) := by decide +kernel
theorem d_M_rootOfMeanSquare_65 : decode c_M_rootOfMeanSquare 65 = .ok (.lcmp, 1) := by decide +kernel
theorem d_M_rootOfMeanSquare_66 : decode c_M_rootOfMeanSquare 66 = .ok (.ifCond .gt 10, 3) := by decide +kernel
theorem d_M_rootOfMeanSquare_69 : decode c_M_rootOfMeanSquare 69 = .ok (.iload 5, 2) := by decide +kernel
theorem d_M_rootOfMeanSquare_71 : decode c_M_rootOfMeanSquare 71 = .ok (.iload 6, 2) := by decide +kernel
theorem d_M_rootOfMeanSquare_73 : decode c_M_rootOfMeanSquare 73 = .ok (.iadd, 1) := by decide +kernel
theorem d_M_rootOfMeanSquare_74 : decode c_M_rootOfMeanSquare 74 = .ok (.istore 5, 2) := by decide +kernel
theorem d_M_rootOfMeanSquare_76 : decode c_M_rootOfMeanSquare 76 = .ok (.iload 6, 2) := by decide +kernel
theorem d_M_rootOfMeanSquare_78 : decode c_M_rootOfMeanSquare 78 = .ok (.iconst 1, 1) := by decide +kernel
theorem d_M_rootOfMeanSquare_79 : decode c_M_rootOfMeanSquare 79 = .ok (.ishr, 1) := by decide +kernel
theorem d_M_rootOfMeanSquare_80 : decode c_M_rootOfMeanSquare 80 = .ok (.istore 6, 2) := by decide +kernel
theorem d_M_rootOfMeanSquare_82 : decode c_M_rootOfMeanSquare 82 = .ok (.goto (-36), 3) := by decide +kernel
theorem d_M_rootOfMeanSquare_85 : decode c_M_rootOfMeanSquare 85 = .ok (.iload 5, 2) := by decide +kernel
theorem d_M_rootOfMeanSquare_87 : decode c_M_rootOfMeanSquare 87 = .ok (.ireturn, 1) := by decide +kernel
theorem d_R_init_0 : decode c_R_init 0 = .ok (.aload_n 0, 1) := by decide +kernel
theorem d_R_init_1 : decode c_R_init 1 = .ok (.invokespecial 3, 3) := by decide +kernel
theorem d_R_init_4 : decode c_R_init 4 = .ok (.aload_n 0, 1) := by decide +kernel
theorem d_R_init_5 : decode c_R_init 5 = .ok (.new 9, 3) := by decide +kernel
theorem d_R_init_8 : decode c_R_init 8 = .ok (.dup, 1) := by decide +kernel
theorem d_R_init_9 : decode c_R_init 9 = .ok (.invokespecial 11, 3) := by decide +kernel
theorem d_R_init_12 : decode c_R_init 12 = .ok (.putfield 12, 3) := by decide +kernel
theorem d_R_init_15 : decode c_R_init 15 = .ok (.aload_n 0, 1) := by decide +kernel
theorem d_R_init_16 : decode c_R_init 16 = .ok (.new 18, 3) := by decide +kernel
theorem d_R_init_19 : decode c_R_init 19 = .ok (.dup, 1) := by decide +kernel
theorem d_R_init_20 : decode c_R_init 20 = .ok (.invokespecial 20, 3) := by decide +kernel
theorem d_R_init_23 : decode c_R_init 23 = .ok (.putfield 21, 3) := by decide +kernel
theorem d_R_init_26 : decode c_R_init 26 = .ok (.aload_n 0, 1) := by decide +kernel
theorem d_R_init_27 : decode c_R_init 27 = .ok (.bipush 10, 2) := by decide +kernel
theorem d_R_init_29 : decode c_R_init 29 = .ok (.putfield 25, 3) := by decide +kernel
theorem d_R_init_32 : decode c_R_init 32 = .ok (.aload_n 0, 1) := by decide +kernel
theorem d_R_init_33 : decode c_R_init 33 = .ok (.iload_n 1, 1) := by decide +kernel
theorem d_R_init_34 : decode c_R_init 34 = .ok (.putfield 29, 3) := by decide +kernel
theorem d_R_init_37 : decode c_R_init 37 = .ok (.aload_n 0, 1) := by decide +kernel
theorem d_R_init_38 : decode c_R_init 38 = .ok (.new 32, 3) := by decide +kernel
theorem d_R_init_41 : decode c_R_init 41 = .ok (.dup, 1) := by decide +kernel
theorem d_R_init_42 : decode c_R_init 42 = .ok (.iload_n 1, 1) := by decide +kernel
theorem d_R_init_43 : decode c_R_init 43 = .ok (.iconst (-1), 1) := by decide +kernel
theorem d_R_init_44 : decode c_R_init 44 = .ok (.if_icmp .eq 7, 3) := by decide +kernel
theorem d_R_init_47 : decode c_R_init 47 = .ok (.iconst 1, 1) := by decide +kernel
theorem d_R_init_48 : decode c_R_init 48 = .ok (.goto 4, 3) := by decide +kernel
theorem d_R_init_51 : decode c_R_init 51 = .ok (.iconst 0, 1) := by decide +kernel
theorem d_R_init_52 : decode c_R_init 52 = .ok (.invokespecial 34, 3) := by decide +kernel
theorem d_R_init_55 : decode c_R_init 55 = .ok (.putfield 37, 3) := by decide +kernel
theorem d_R_init_58 : decode c_R_init 58 = .ok (.return_, 1) := by decide +kernel
theorem d_W_init_0 : decode c_W_init 0 = .ok (.aload_n 0, 1) := by decide +kernel
theorem d_W_init_1 : decode c_W_init 1 = .ok (.invokespecial 1, 3) := by decide +kernel
theorem d_W_init_4 : decode c_W_init 4 = .ok (.aload_n 0, 1) := by decide +kernel
theorem d_W_init_5 : decode c_W_init 5 = .ok (.bipush 8, 2) := by decide +kernel
theorem d_W_init_7 : decode c_W_init 7 = .ok (.newarray .int, 2) := by decide +kernel
theorem d_W_init_9 : decode c_W_init 9 = .ok (.putfield 9, 3) := by decide +kernel
theorem d_W_init_12 : decode c_W_init 12 = .ok (.aload_n 0, 1) := by decide +kernel
theorem d_W_init_13 : decode c_W_init 13 = .ok (.bipush 8, 2) := by decide +kernel
theorem d_W_init_15 : decode c_W_init 15 = .ok (.newarray .int, 2) := by decide +kernel
theorem d_W_init_17 : decode c_W_init 17 = .ok (.putfield 13, 3) := by decide +kernel
theorem d_W_init_20 : decode c_W_init 20 = .ok (.aload_n 0, 1) := by decide +kernel
theorem d_W_init_21 : decode c_W_init 21 = .ok (.iconst 1, 1) := by decide +kernel
theorem d_W_init_22 : decode c_W_init 22 = .ok (.putfield 16, 3) := by decide +kernel
theorem d_W_init_25 : decode c_W_init 25 = .ok (.aload_n 0, 1) := by decide +kernel
theorem d_W_init_26 : decode c_W_init 26 = .ok (.iconst 0, 1) := by decide +kernel
theorem d_W_init_27 : decode c_W_init 27 = .ok (.putfield 20, 3) := by decide +kernel
theorem d_W_init_30 : decode c_W_init 30 = .ok (.aload_n 0, 1) := by decide +kernel
theorem d_W_init_31 : decode c_W_init 31 = .ok (.iload_n 1, 1) := by decide +kernel
theorem d_W_init_32 : decode c_W_init 32 = .ok (.putfield 23, 3) := by decide +kernel
theorem d_W_init_35 : decode c_W_init 35 = .ok (.return_, 1) := by decide +kernel
theorem d_W_deliver_0 : decode c_W_deliver 0 = .ok (.iconst 0, 1) := by decide +kernel
theorem d_W_deliver_1 : decode c_W_deliver 1 = .ok (.istore_n 2, 1) := by decide +kernel
theorem d_W_deliver_2 : decode c_W_deliver 2 = .ok (.iload_n 2, 1) := by decide +kernel
theorem d_W_deliver_3 : decode c_W_deliver 3 = .ok (.bipush 8, 2) := by decide +kernel
theorem d_W_deliver_5 : decode c_W_deliver 5 = .ok (.if_icmp .ge 37, 3) := by decide +kernel
theorem d_W_deliver_8 : decode c_W_deliver 8 = .ok (.iload_n 1, 1) := by decide +kernel
theorem d_W_deliver_9 : decode c_W_deliver 9 = .ok (.iload_n 2, 1) := by decide +kernel
theorem d_W_deliver_10 : decode c_W_deliver 10 = .ok (.iadd, 1) := by decide +kernel
theorem d_W_deliver_11 : decode c_W_deliver 11 = .ok (.invokestatic 27, 3) := by decide +kernel
theorem d_W_deliver_14 : decode c_W_deliver 14 = .ok (.istore_n 3, 1) := by decide +kernel
theorem d_W_deliver_15 : decode c_W_deliver 15 = .ok (.aload_n 0, 1) := by decide +kernel
theorem d_W_deliver_16 : decode c_W_deliver 16 = .ok (.getfield 13, 3) := by decide +kernel
theorem d_W_deliver_19 : decode c_W_deliver 19 = .ok (.iload_n 3, 1) := by decide +kernel
theorem d_W_deliver_20 : decode c_W_deliver 20 = .ok (.iaload, 1) := by decide +kernel
theorem d_W_deliver_21 : decode c_W_deliver 21 = .ok (.iload_n 1, 1) := by decide +kernel
theorem d_W_deliver_22 : decode c_W_deliver 22 = .ok (.if_icmp .ne 14, 3) := by decide +kernel
theorem d_W_deliver_25 : decode c_W_deliver 25 = .ok (.aload_n 0, 1) := by decide +kernel
theorem d_W_deliver_26 : decode c_W_deliver 26 = .ok (.aload_n 0, 1) := by decide +kernel
theorem d_W_deliver_27 : decode c_W_deliver 27 = .ok (.getfield 9, 3) := by decide +kernel
theorem d_W_deliver_30 : decode c_W_deliver 30 = .ok (.iload_n 3, 1) := by decide +kernel
theorem d_W_deliver_31 : decode c_W_deliver 31 = .ok (.iaload, 1) := by decide +kernel
theorem d_W_deliver_32 : decode c_W_deliver 32 = .ok (.iload_n 1, 1) := by decide +kernel
theorem d_W_deliver_33 : decode c_W_deliver 33 = .ok (.invokevirtual 31, 3) := by decide +kernel
theorem d_W_deliver_36 : decode c_W_deliver 36 = .ok (.iinc 2 1, 3) := by decide +kernel
theorem d_W_deliver_39 : decode c_W_deliver 39 = .ok (.goto (-37), 3) := by decide +kernel
theorem d_W_deliver_42 : decode c_W_deliver 42 = .ok (.return_, 1) := by decide +kernel
theorem d_W_report_0 : decode c_W_report 0 = .ok (.iload_n 3, 1) := by decide +kernel
theorem d_W_report_1 : decode c_W_report 1 = .ok (.ifCond .eq 21, 3) := by decide +kernel
theorem d_W_report_4 : decode c_W_report 4 = .ok (.aload_n 0, 1) := by decide +kernel
theorem d_W_report_5 : decode c_W_report 5 = .ok (.dup, 1) := by decide +kernel
theorem d_W_report_6 : decode c_W_report 6 = .ok (.getfield 35, 3) := by decide +kernel
theorem d_W_report_9 : decode c_W_report 9 = .ok (.iconst 1, 1) := by decide +kernel
theorem d_W_report_10 : decode c_W_report 10 = .ok (.iadd, 1) := by decide +kernel
theorem d_W_report_11 : decode c_W_report 11 = .ok (.putfield 35, 3) := by decide +kernel
theorem d_W_report_14 : decode c_W_report 14 = .ok (.aload_n 0, 1) := by decide +kernel
theorem d_W_report_15 : decode c_W_report 15 = .ok (.iconst 1, 1) := by decide +kernel
theorem d_W_report_16 : decode c_W_report 16 = .ok (.putfield 38, 3) := by decide +kernel
theorem d_W_report_19 : decode c_W_report 19 = .ok (.goto 37, 3) := by decide +kernel
theorem d_W_report_22 : decode c_W_report 22 = .ok (.aload_n 0, 1) := by decide +kernel
theorem d_W_report_23 : decode c_W_report 23 = .ok (.getfield 20, 3) := by decide +kernel
theorem d_W_report_26 : decode c_W_report 26 = .ok (.ifCond .eq 29, 3) := by decide +kernel
theorem d_W_report_29 : decode c_W_report 29 = .ok (.iload_n 1, 1) := by decide +kernel
theorem d_W_report_30 : decode c_W_report 30 = .ok (.aload_n 0, 1) := by decide +kernel
theorem d_W_report_31 : decode c_W_report 31 = .ok (.getfield 20, 3) := by decide +kernel
theorem d_W_report_34 : decode c_W_report 34 = .ok (.if_icmp .lt 21, 3) := by decide +kernel
theorem d_W_report_37 : decode c_W_report 37 = .ok (.aload_n 0, 1) := by decide +kernel
theorem d_W_report_38 : decode c_W_report 38 = .ok (.iconst 2, 1) := by decide +kernel
theorem d_W_report_39 : decode c_W_report 39 = .ok (.aload_n 0, 1) := by decide +kernel
theorem d_W_report_40 : decode c_W_report 40 = .ok (.getfield 38, 3) := by decide +kernel
theorem d_W_report_43 : decode c_W_report 43 = .ok (.imul, 1) := by decide +kernel
theorem d_W_report_44 : decode c_W_report 44 = .ok (.bipush 8, 2) := by decide +kernel
theorem d_W_report_46 : decode c_W_report 46 = .ok (.invokestatic 41, 3) := by decide +kernel
theorem d_W_report_49 : decode c_W_report 49 = .ok (.putfield 38, 3) := by decide +kernel
theorem d_W_report_52 : decode c_W_report 52 = .ok (.goto 4, 3) := by decide +kernel
theorem d_W_report_55 : decode c_W_report 55 = .ok (.return_, 1) := by decide +kernel
theorem d_W_report_56 : decode c_W_report 56 = .ok (.aload_n 0, 1) := by decide +kernel
theorem d_W_report_57 : decode c_W_report 57 = .ok (.iload_n 1, 1) := by decide +kernel
theorem d_W_report_58 : decode c_W_report 58 = .ok (.aload_n 0, 1) := by decide +kernel
theorem d_W_report_59 : decode c_W_report 59 = .ok (.getfield 38, 3) := by decide +kernel
theorem d_W_report_62 : decode c_W_report 62 = .ok (.iadd, 1) := by decide +kernel
theorem d_W_report_63 : decode c_W_report 63 = .ok (.putfield 20, 3) := by decide +kernel
theorem d_W_report_66 : decode c_W_report 66 = .ok (.aload_n 0, 1) := by decide +kernel
theorem d_W_report_67 : decode c_W_report 67 = .ok (.getfield 23, 3) := by decide +kernel
theorem d_W_report_70 : decode c_W_report 70 = .ok (.ifCond .eq 24, 3) := by decide +kernel
theorem d_W_report_73 : decode c_W_report 73 = .ok (.aload_n 0, 1) := by decide +kernel
theorem d_W_report_74 : decode c_W_report 74 = .ok (.iconst 2, 1) := by decide +kernel
theorem d_W_report_75 : decode c_W_report 75 = .ok (.aload_n 0, 1) := by decide +kernel
theorem d_W_report_76 : decode c_W_report 76 = .ok (.getfield 35, 3) := by decide +kernel
theorem d_W_report_79 : decode c_W_report 79 = .ok (.imul, 1) := by decide +kernel
theorem d_W_report_80 : decode c_W_report 80 = .ok (.iload_n 2, 1) := by decide +kernel
theorem d_W_report_81 : decode c_W_report 81 = .ok (.ifCond .eq 7, 3) := by decide +kernel
theorem d_W_report_84 : decode c_W_report 84 = .ok (.iconst 1, 1) := by decide +kernel
theorem d_W_report_85 : decode c_W_report 85 = .ok (.goto 4, 3) := by decide +kernel
theorem d_W_report_88 : decode c_W_report 88 = .ok (.iconst 0, 1) := by decide +kernel
theorem d_W_report_89 : decode c_W_report 89 = .ok (.iadd, 1) := by decide +kernel
theorem d_W_report_90 : decode c_W_report 90 = .ok (.iload_n 1, 1) := by decide +kernel
theorem d_W_report_91 : decode c_W_report 91 = .ok (.invokevirtual 47, 3) := by decide +kernel
theorem d_W_report_94 : decode c_W_report 94 = .ok (.return_, 1) := by decide +kernel
theorem d_W_holdsBack_0 : decode c_W_holdsBack 0 = .ok (.aload_n 0, 1) := by decide +kernel
theorem d_W_holdsBack_1 : decode c_W_holdsBack 1 = .ok (.getfield 50, 3) := by decide +kernel
theorem d_W_holdsBack_4 : decode c_W_holdsBack 4 = .ok (.iconst 1, 1) := by decide +kernel
theorem d_W_holdsBack_5 : decode c_W_holdsBack 5 = .ok (.iand, 1) := by decide +kernel
theorem d_W_holdsBack_6 : decode c_W_holdsBack 6 = .ok (.iconst 1, 1) := by decide +kernel
theorem d_W_holdsBack_7 : decode c_W_holdsBack 7 = .ok (.if_icmp .ne 18, 3) := by decide +kernel
theorem d_W_holdsBack_10 : decode c_W_holdsBack 10 = .ok (.iload_n 1, 1) := by decide +kernel
theorem d_W_holdsBack_11 : decode c_W_holdsBack 11 = .ok (.aload_n 0, 1) := by decide +kernel
theorem d_W_holdsBack_12 : decode c_W_holdsBack 12 = .ok (.getfield 53, 3) := by decide +kernel
theorem d_W_holdsBack_15 : decode c_W_holdsBack 15 = .ok (.isub, 1) := by decide +kernel
theorem d_W_holdsBack_16 : decode c_W_holdsBack 16 = .ok (.bipush 12, 2) := by decide +kernel
theorem d_W_holdsBack_18 : decode c_W_holdsBack 18 = .ok (.if_icmp .gt 7, 3) := by decide +kernel
theorem d_W_holdsBack_21 : decode c_W_holdsBack 21 = .ok (.iconst 1, 1) := by decide +kernel
theorem d_W_holdsBack_22 : decode c_W_holdsBack 22 = .ok (.goto 4, 3) := by decide +kernel
theorem d_W_holdsBack_25 : decode c_W_holdsBack 25 = .ok (.iconst 0, 1) := by decide +kernel
theorem d_W_holdsBack_26 : decode c_W_holdsBack 26 = .ok (.ireturn, 1) := by decide +kernel
theorem d_W_forget_0 : decode c_W_forget 0 = .ok (.aload_n 0, 1) := by decide +kernel
theorem d_W_forget_1 : decode c_W_forget 1 = .ok (.getfield 13, 3) := by decide +kernel
theorem d_W_forget_4 : decode c_W_forget 4 = .ok (.iconst 0, 1) := by decide +kernel
theorem d_W_forget_5 : decode c_W_forget 5 = .ok (.invokestatic 56, 3) := by decide +kernel
theorem d_W_forget_8 : decode c_W_forget 8 = .ok (.aload_n 0, 1) := by decide +kernel
theorem d_W_forget_9 : decode c_W_forget 9 = .ok (.iconst 0, 1) := by decide +kernel
theorem d_W_forget_10 : decode c_W_forget 10 = .ok (.putfield 35, 3) := by decide +kernel
theorem d_W_forget_13 : decode c_W_forget 13 = .ok (.aload_n 0, 1) := by decide +kernel
theorem d_W_forget_14 : decode c_W_forget 14 = .ok (.iconst 0, 1) := by decide +kernel
theorem d_W_forget_15 : decode c_W_forget 15 = .ok (.putfield 50, 3) := by decide +kernel
theorem d_W_forget_18 : decode c_W_forget 18 = .ok (.aload_n 0, 1) := by decide +kernel
theorem d_W_forget_19 : decode c_W_forget 19 = .ok (.iconst 0, 1) := by decide +kernel
theorem d_W_forget_20 : decode c_W_forget 20 = .ok (.putfield 20, 3) := by decide +kernel
theorem d_W_forget_23 : decode c_W_forget 23 = .ok (.return_, 1) := by decide +kernel
theorem d_W_send_0 : decode c_W_send 0 = .ok (.iload_n 2, 1) := by decide +kernel
theorem d_W_send_1 : decode c_W_send 1 = .ok (.invokestatic 27, 3) := by decide +kernel
theorem d_W_send_4 : decode c_W_send 4 = .ok (.istore_n 3, 1) := by decide +kernel
theorem d_W_send_5 : decode c_W_send 5 = .ok (.aload_n 0, 1) := by decide +kernel
theorem d_W_send_6 : decode c_W_send 6 = .ok (.getfield 9, 3) := by decide +kernel
theorem d_W_send_9 : decode c_W_send 9 = .ok (.iload_n 3, 1) := by decide +kernel
theorem d_W_send_10 : decode c_W_send 10 = .ok (.iload_n 1, 1) := by decide +kernel
theorem d_W_send_11 : decode c_W_send 11 = .ok (.iastore, 1) := by decide +kernel
theorem d_W_send_12 : decode c_W_send 12 = .ok (.aload_n 0, 1) := by decide +kernel
theorem d_W_send_13 : decode c_W_send 13 = .ok (.getfield 13, 3) := by decide +kernel
theorem d_W_send_16 : decode c_W_send 16 = .ok (.iload_n 3, 1) := by decide +kernel
theorem d_W_send_17 : decode c_W_send 17 = .ok (.aload_n 0, 1) := by decide +kernel
theorem d_W_send_18 : decode c_W_send 18 = .ok (.getfield 16, 3) := by decide +kernel
theorem d_W_send_21 : decode c_W_send 21 = .ok (.ifCond .ne 7, 3) := by decide +kernel
theorem d_W_send_24 : decode c_W_send 24 = .ok (.iconst 0, 1) := by decide +kernel
theorem d_W_send_25 : decode c_W_send 25 = .ok (.goto 9, 3) := by decide +kernel
theorem d_W_send_28 : decode c_W_send 28 = .ok (.iload_n 2, 1) := by decide +kernel
theorem d_W_send_29 : decode c_W_send 29 = .ok (.aload_n 0, 1) := by decide +kernel
theorem d_W_send_30 : decode c_W_send 30 = .ok (.getfield 16, 3) := by decide +kernel
theorem d_W_send_33 : decode c_W_send 33 = .ok (.iadd, 1) := by decide +kernel
theorem d_W_send_34 : decode c_W_send 34 = .ok (.iastore, 1) := by decide +kernel
theorem d_W_send_35 : decode c_W_send 35 = .ok (.return_, 1) := by decide +kernel
theorem d_W_learn_0 : decode c_W_learn 0 = .ok (.iload_n 1, 1) := by decide +kernel
theorem d_W_learn_1 : decode c_W_learn 1 = .ok (.iconst 1, 1) := by decide +kernel
theorem d_W_learn_2 : decode c_W_learn 2 = .ok (.ishr, 1) := by decide +kernel
theorem d_W_learn_3 : decode c_W_learn 3 = .ok (.aload_n 0, 1) := by decide +kernel
theorem d_W_learn_4 : decode c_W_learn 4 = .ok (.getfield 50, 3) := by decide +kernel
theorem d_W_learn_7 : decode c_W_learn 7 = .ok (.iconst 1, 1) := by decide +kernel
theorem d_W_learn_8 : decode c_W_learn 8 = .ok (.ishr, 1) := by decide +kernel
theorem d_W_learn_9 : decode c_W_learn 9 = .ok (.if_icmp .lt 13, 3) := by decide +kernel
theorem d_W_learn_12 : decode c_W_learn 12 = .ok (.aload_n 0, 1) := by decide +kernel
theorem d_W_learn_13 : decode c_W_learn 13 = .ok (.iload_n 1, 1) := by decide +kernel
theorem d_W_learn_14 : decode c_W_learn 14 = .ok (.putfield 50, 3) := by decide +kernel
theorem d_W_learn_17 : decode c_W_learn 17 = .ok (.aload_n 0, 1) := by decide +kernel
theorem d_W_learn_18 : decode c_W_learn 18 = .ok (.iload_n 2, 1) := by decide +kernel
theorem d_W_learn_19 : decode c_W_learn 19 = .ok (.putfield 53, 3) := by decide +kernel
theorem d_W_learn_22 : decode c_W_learn 22 = .ok (.return_, 1) := by decide +kernel
theorem d_W_placeOf_0 : decode c_W_placeOf 0 = .ok (.iload_n 0, 1) := by decide +kernel
theorem d_W_placeOf_1 : decode c_W_placeOf 1 = .ok (.bipush 7, 2) := by decide +kernel
theorem d_W_placeOf_3 : decode c_W_placeOf 3 = .ok (.iand, 1) := by decide +kernel
theorem d_W_placeOf_4 : decode c_W_placeOf 4 = .ok (.ireturn, 1) := by decide +kernel
theorem d_A_fill_0 : decode c_A_fill 0 = .ok (.iconst 0, 1) := by decide +kernel
theorem d_A_fill_1 : decode c_A_fill 1 = .ok (.istore_n 2, 1) := by decide +kernel
theorem d_A_fill_2 : decode c_A_fill 2 = .ok (.aload_n 0, 1) := by decide +kernel
theorem d_A_fill_3 : decode c_A_fill 3 = .ok (.arraylength, 1) := by decide +kernel
theorem d_A_fill_4 : decode c_A_fill 4 = .ok (.istore_n 3, 1) := by decide +kernel
theorem d_A_fill_5 : decode c_A_fill 5 = .ok (.iload_n 2, 1) := by decide +kernel
theorem d_A_fill_6 : decode c_A_fill 6 = .ok (.iload_n 3, 1) := by decide +kernel
theorem d_A_fill_7 : decode c_A_fill 7 = .ok (.if_icmp .ge 13, 3) := by decide +kernel
theorem d_A_fill_10 : decode c_A_fill 10 = .ok (.aload_n 0, 1) := by decide +kernel
theorem d_A_fill_11 : decode c_A_fill 11 = .ok (.iload_n 2, 1) := by decide +kernel
theorem d_A_fill_12 : decode c_A_fill 12 = .ok (.iload_n 1, 1) := by decide +kernel
theorem d_A_fill_13 : decode c_A_fill 13 = .ok (.iastore, 1) := by decide +kernel
theorem d_A_fill_14 : decode c_A_fill 14 = .ok (.iinc 2 1, 3) := by decide +kernel
theorem d_A_fill_17 : decode c_A_fill 17 = .ok (.goto (-12), 3) := by decide +kernel
theorem d_A_fill_20 : decode c_A_fill 20 = .ok (.return_, 1) := by decide +kernel
