theorem d_Cw_init_0 : decode b_Cw_init 0 = .ok (.aload_n 0, 1) := by decide +kernel
theorem d_Cw_init_1 : decode b_Cw_init 1 = .ok (.invokespecial 1, 3) := by decide +kernel
theorem d_Cw_init_4 : decode b_Cw_init 4 = .ok (.aload_n 0, 1) := by decide +kernel
theorem d_Cw_init_5 : decode b_Cw_init 5 = .ok (.iconst 0, 1) := by decide +kernel
theorem d_Cw_init_6 : decode b_Cw_init 6 = .ok (.newarray .int, 2) := by decide +kernel
theorem d_Cw_init_8 : decode b_Cw_init 8 = .ok (.putfield 7, 3) := by decide +kernel
theorem d_Cw_init_11 : decode b_Cw_init 11 = .ok (.aload_n 0, 1) := by decide +kernel
theorem d_Cw_init_12 : decode b_Cw_init 12 = .ok (.iconst 0, 1) := by decide +kernel
theorem d_Cw_init_13 : decode b_Cw_init 13 = .ok (.putfield 13, 3) := by decide +kernel
theorem d_Cw_init_16 : decode b_Cw_init 16 = .ok (.aload_n 0, 1) := by decide +kernel
theorem d_Cw_init_17 : decode b_Cw_init 17 = .ok (.iconst 0, 1) := by decide +kernel
theorem d_Cw_init_18 : decode b_Cw_init 18 = .ok (.putfield 17, 3) := by decide +kernel
theorem d_Cw_init_21 : decode b_Cw_init 21 = .ok (.return_, 1) := by decide +kernel
theorem d_Cw_begin_0 : decode b_Cw_begin 0 = .ok (.aload_n 0, 1) := by decide +kernel
theorem d_Cw_begin_1 : decode b_Cw_begin 1 = .ok (.invokevirtual 20, 3) := by decide +kernel
theorem d_Cw_begin_4 : decode b_Cw_begin 4 = .ok (.aload_n 0, 1) := by decide +kernel
theorem d_Cw_begin_5 : decode b_Cw_begin 5 = .ok (.aload_n 1, 1) := by decide +kernel
theorem d_Cw_begin_6 : decode b_Cw_begin 6 = .ok (.putfield 7, 3) := by decide +kernel
theorem d_Cw_begin_9 : decode b_Cw_begin 9 = .ok (.aload_n 0, 1) := by decide +kernel
theorem d_Cw_begin_10 : decode b_Cw_begin 10 = .ok (.iload_n 2, 1) := by decide +kernel
theorem d_Cw_begin_11 : decode b_Cw_begin 11 = .ok (.putfield 13, 3) := by decide +kernel
theorem d_Cw_begin_14 : decode b_Cw_begin 14 = .ok (.aload_n 0, 1) := by decide +kernel
theorem d_Cw_begin_15 : decode b_Cw_begin 15 = .ok (.iconst 0, 1) := by decide +kernel
theorem d_Cw_begin_16 : decode b_Cw_begin 16 = .ok (.putfield 17, 3) := by decide +kernel
theorem d_Cw_begin_19 : decode b_Cw_begin 19 = .ok (.return_, 1) := by decide +kernel
theorem d_Cw_choose_0 : decode b_Cw_choose 0 = .ok (.aload_n 0, 1) := by decide +kernel
theorem d_Cw_choose_1 : decode b_Cw_choose 1 = .ok (.getfield 13, 3) := by decide +kernel
theorem d_Cw_choose_4 : decode b_Cw_choose 4 = .ok (.aload_n 0, 1) := by decide +kernel
theorem d_Cw_choose_5 : decode b_Cw_choose 5 = .ok (.getfield 17, 3) := by decide +kernel
theorem d_Cw_choose_8 : decode b_Cw_choose 8 = .ok (.bipush 8, 2) := by decide +kernel
theorem d_Cw_choose_10 : decode b_Cw_choose 10 = .ok (.idiv, 1) := by decide +kernel
theorem d_Cw_choose_11 : decode b_Cw_choose 11 = .ok (.iadd, 1) := by decide +kernel
theorem d_Cw_choose_12 : decode b_Cw_choose 12 = .ok (.iconst 2, 1) := by decide +kernel
theorem d_Cw_choose_13 : decode b_Cw_choose 13 = .ok (.iadd, 1) := by decide +kernel
theorem d_Cw_choose_14 : decode b_Cw_choose 14 = .ok (.istore_n 3, 1) := by decide +kernel
theorem d_Cw_choose_15 : decode b_Cw_choose 15 = .ok (.iload_n 2, 1) := by decide +kernel
theorem d_Cw_choose_16 : decode b_Cw_choose 16 = .ok (.iconst 1, 1) := by decide +kernel
theorem d_Cw_choose_17 : decode b_Cw_choose 17 = .ok (.if_icmp .ne 81, 3) := by decide +kernel
theorem d_Cw_choose_20 : decode b_Cw_choose 20 = .ok (.iload_n 3, 1) := by decide +kernel
theorem d_Cw_choose_21 : decode b_Cw_choose 21 = .ok (.aload_n 0, 1) := by decide +kernel
theorem d_Cw_choose_22 : decode b_Cw_choose 22 = .ok (.getfield 7, 3) := by decide +kernel
theorem d_Cw_choose_25 : decode b_Cw_choose 25 = .ok (.arraylength, 1) := by decide +kernel
theorem d_Cw_choose_26 : decode b_Cw_choose 26 = .ok (.if_icmp .ge 72, 3) := by decide +kernel
theorem d_Cw_choose_29 : decode b_Cw_choose 29 = .ok (.iload_n 1, 1) := by decide +kernel
theorem d_Cw_choose_30 : decode b_Cw_choose 30 = .ok (.bipush 8, 2) := by decide +kernel
theorem d_Cw_choose_32 : decode b_Cw_choose 32 = .ok (.aload_n 0, 1) := by decide +kernel
theorem d_Cw_choose_33 : decode b_Cw_choose 33 = .ok (.getfield 17, 3) := by decide +kernel
theorem d_Cw_choose_36 : decode b_Cw_choose 36 = .ok (.bipush 8, 2) := by decide +kernel
theorem d_Cw_choose_38 : decode b_Cw_choose 38 = .ok (.irem, 1) := by decide +kernel
theorem d_Cw_choose_39 : decode b_Cw_choose 39 = .ok (.isub, 1) := by decide +kernel
theorem d_Cw_choose_40 : decode b_Cw_choose 40 = .ok (.ishl, 1) := by decide +kernel
theorem d_Cw_choose_41 : decode b_Cw_choose 41 = .ok (.istore 4, 2) := by decide +kernel
theorem d_Cw_choose_43 : decode b_Cw_choose 43 = .ok (.iload_n 3, 1) := by decide +kernel
theorem d_Cw_choose_44 : decode b_Cw_choose 44 = .ok (.istore 5, 2) := by decide +kernel
theorem d_Cw_choose_46 : decode b_Cw_choose 46 = .ok (.iload 5, 2) := by decide +kernel
theorem d_Cw_choose_48 : decode b_Cw_choose 48 = .ok (.aload_n 0, 1) := by decide +kernel
theorem d_Cw_choose_49 : decode b_Cw_choose 49 = .ok (.getfield 13, 3) := by decide +kernel
theorem d_Cw_choose_52 : decode b_Cw_choose 52 = .ok (.if_icmp .lt 46, 3) := by decide +kernel
theorem d_Cw_choose_55 : decode b_Cw_choose 55 = .ok (.iload 4, 2) := by decide +kernel
theorem d_Cw_choose_57 : decode b_Cw_choose 57 = .ok (.ifCond .le 41, 3) := by decide +kernel
theorem d_Cw_choose_60 : decode b_Cw_choose 60 = .ok (.iload 4, 2) := by decide +kernel
theorem d_Cw_choose_62 : decode b_Cw_choose 62 = .ok (.aload_n 0, 1) := by decide +kernel
theorem d_Cw_choose_63 : decode b_Cw_choose 63 = .ok (.getfield 7, 3) := by decide +kernel
theorem d_Cw_choose_66 : decode b_Cw_choose 66 = .ok (.iload 5, 2) := by decide +kernel
theorem d_Cw_choose_68 : decode b_Cw_choose 68 = .ok (.iaload, 1) := by decide +kernel
theorem d_Cw_choose_69 : decode b_Cw_choose 69 = .ok (.iadd, 1) := by decide +kernel
theorem d_Cw_choose_70 : decode b_Cw_choose 70 = .ok (.istore 4, 2) := by decide +kernel
theorem d_Cw_choose_72 : decode b_Cw_choose 72 = .ok (.aload_n 0, 1) := by decide +kernel
theorem d_Cw_choose_73 : decode b_Cw_choose 73 = .ok (.getfield 7, 3) := by decide +kernel
theorem d_Cw_choose_76 : decode b_Cw_choose 76 = .ok (.iload 5, 2) := by decide +kernel
theorem d_Cw_choose_78 : decode b_Cw_choose 78 = .ok (.iload 4, 2) := by decide +kernel
theorem d_Cw_choose_80 : decode b_Cw_choose 80 = .ok (.sipush 255, 3) := by decide +kernel
theorem d_Cw_choose_83 : decode b_Cw_choose 83 = .ok (.iand, 1) := by decide +kernel
theorem d_Cw_choose_84 : decode b_Cw_choose 84 = .ok (.iastore, 1) := by decide +kernel
theorem d_Cw_choose_85 : decode b_Cw_choose 85 = .ok (.iload 4, 2) := by decide +kernel
theorem d_Cw_choose_87 : decode b_Cw_choose 87 = .ok (.bipush 8, 2) := by decide +kernel
theorem d_Cw_choose_89 : decode b_Cw_choose 89 = .ok (.ishr, 1) := by decide +kernel
theorem d_Cw_choose_90 : decode b_Cw_choose 90 = .ok (.istore 4, 2) := by decide +kernel
theorem d_Cw_choose_92 : decode b_Cw_choose 92 = .ok (.iinc 5 (-1), 3) := by decide +kernel
theorem d_Cw_choose_95 : decode b_Cw_choose 95 = .ok (.goto (-49), 3) := by decide +kernel
theorem d_Cw_choose_98 : decode b_Cw_choose 98 = .ok (.iload_n 2, 1) := by decide +kernel
theorem d_Cw_choose_99 : decode b_Cw_choose 99 = .ok (.ireturn, 1) := by decide +kernel
theorem d_Cw_shift_0 : decode b_Cw_shift 0 = .ok (.aload_n 0, 1) := by decide +kernel
theorem d_Cw_shift_1 : decode b_Cw_shift 1 = .ok (.dup, 1) := by decide +kernel
theorem d_Cw_shift_2 : decode b_Cw_shift 2 = .ok (.getfield 17, 3) := by decide +kernel
theorem d_Cw_shift_5 : decode b_Cw_shift 5 = .ok (.iconst 1, 1) := by decide +kernel
theorem d_Cw_shift_6 : decode b_Cw_shift 6 = .ok (.iadd, 1) := by decide +kernel
theorem d_Cw_shift_7 : decode b_Cw_shift 7 = .ok (.putfield 17, 3) := by decide +kernel
theorem d_Cw_shift_10 : decode b_Cw_shift 10 = .ok (.return_, 1) := by decide +kernel
theorem d_Cw_size_0 : decode b_Cw_size 0 = .ok (.bipush 16, 2) := by decide +kernel
theorem d_Cw_size_2 : decode b_Cw_size 2 = .ok (.aload_n 0, 1) := by decide +kernel
theorem d_Cw_size_3 : decode b_Cw_size 3 = .ok (.getfield 17, 3) := by decide +kernel
theorem d_Cw_size_6 : decode b_Cw_size 6 = .ok (.iadd, 1) := by decide +kernel
theorem d_Cw_size_7 : decode b_Cw_size 7 = .ok (.bipush 7, 2) := by decide +kernel
theorem d_Cw_size_9 : decode b_Cw_size 9 = .ok (.iadd, 1) := by decide +kernel
theorem d_Cw_size_10 : decode b_Cw_size 10 = .ok (.bipush 8, 2) := by decide +kernel
theorem d_Cw_size_12 : decode b_Cw_size 12 = .ok (.idiv, 1) := by decide +kernel
theorem d_Cw_size_13 : decode b_Cw_size 13 = .ok (.ireturn, 1) := by decide +kernel
theorem d_Cd_init_0 : decode b_Cd_init 0 = .ok (.aload_n 0, 1) := by decide +kernel
theorem d_Cd_init_1 : decode b_Cd_init 1 = .ok (.invokespecial 1, 3) := by decide +kernel
theorem d_Cd_init_4 : decode b_Cd_init 4 = .ok (.aload_n 0, 1) := by decide +kernel
theorem d_Cd_init_5 : decode b_Cd_init 5 = .ok (.bipush 48, 2) := by decide +kernel
theorem d_Cd_init_7 : decode b_Cd_init 7 = .ok (.newarray .int, 2) := by decide +kernel
theorem d_Cd_init_9 : decode b_Cd_init 9 = .ok (.putfield 9, 3) := by decide +kernel
theorem d_Cd_init_12 : decode b_Cd_init 12 = .ok (.aload_n 0, 1) := by decide +kernel
theorem d_Cd_init_13 : decode b_Cd_init 13 = .ok (.bipush 48, 2) := by decide +kernel
theorem d_Cd_init_15 : decode b_Cd_init 15 = .ok (.newarray .int, 2) := by decide +kernel
theorem d_Cd_init_17 : decode b_Cd_init 17 = .ok (.putfield 13, 3) := by decide +kernel
theorem d_Cd_init_20 : decode b_Cd_init 20 = .ok (.aload_n 0, 1) := by decide +kernel
theorem d_Cd_init_21 : decode b_Cd_init 21 = .ok (.ldc 16, 2) := by decide +kernel
theorem d_Cd_init_23 : decode b_Cd_init 23 = .ok (.putfield 17, 3) := by decide +kernel
theorem d_Cd_init_26 : decode b_Cd_init 26 = .ok (.aload_n 0, 1) := by decide +kernel
theorem d_Cd_init_27 : decode b_Cd_init 27 = .ok (.invokevirtual 21, 3) := by decide +kernel
theorem d_Cd_init_30 : decode b_Cd_init 30 = .ok (.return_, 1) := by decide +kernel
theorem d_Cd_restart_0 : decode b_Cd_restart 0 = .ok (.aload_n 0, 1) := by decide +kernel
theorem d_Cd_restart_1 : decode b_Cd_restart 1 = .ok (.getfield 9, 3) := by decide +kernel
theorem d_Cd_restart_4 : decode b_Cd_restart 4 = .ok (.iconst 1, 1) := by decide +kernel
theorem d_Cd_restart_5 : decode b_Cd_restart 5 = .ok (.invokestatic 24, 3) := by decide +kernel
theorem d_Cd_restart_8 : decode b_Cd_restart 8 = .ok (.aload_n 0, 1) := by decide +kernel
theorem d_Cd_restart_9 : decode b_Cd_restart 9 = .ok (.getfield 13, 3) := by decide +kernel
theorem d_Cd_restart_12 : decode b_Cd_restart 12 = .ok (.iconst 1, 1) := by decide +kernel
theorem d_Cd_restart_13 : decode b_Cd_restart 13 = .ok (.invokestatic 24, 3) := by decide +kernel
theorem d_Cd_restart_16 : decode b_Cd_restart 16 = .ok (.aload_n 0, 1) := by decide +kernel
theorem d_Cd_restart_17 : decode b_Cd_restart 17 = .ok (.ldc 16, 2) := by decide +kernel
theorem d_Cd_restart_19 : decode b_Cd_restart 19 = .ok (.putfield 17, 3) := by decide +kernel
theorem d_Cd_restart_22 : decode b_Cd_restart 22 = .ok (.return_, 1) := by decide +kernel
theorem d_Cd_code_0 : decode b_Cd_code 0 = .ok (.aload_n 0, 1) := by decide +kernel
theorem d_Cd_code_1 : decode b_Cd_code 1 = .ok (.getfield 17, 3) := by decide +kernel
theorem d_Cd_code_4 : decode b_Cd_code 4 = .ok (.aload_n 0, 1) := by decide +kernel
theorem d_Cd_code_5 : decode b_Cd_code 5 = .ok (.getfield 9, 3) := by decide +kernel
theorem d_Cd_code_8 : decode b_Cd_code 8 = .ok (.iload_n 1, 1) := by decide +kernel
theorem d_Cd_code_9 : decode b_Cd_code 9 = .ok (.iaload, 1) := by decide +kernel
theorem d_Cd_code_10 : decode b_Cd_code 10 = .ok (.imul, 1) := by decide +kernel
theorem d_Cd_code_11 : decode b_Cd_code 11 = .ok (.aload_n 0, 1) := by decide +kernel
theorem d_Cd_code_12 : decode b_Cd_code 12 = .ok (.getfield 9, 3) := by decide +kernel
theorem d_Cd_code_15 : decode b_Cd_code 15 = .ok (.iload_n 1, 1) := by decide +kernel
theorem d_Cd_code_16 : decode b_Cd_code 16 = .ok (.iaload, 1) := by decide +kernel
theorem d_Cd_code_17 : decode b_Cd_code 17 = .ok (.aload_n 0, 1) := by decide +kernel
theorem d_Cd_code_18 : decode b_Cd_code 18 = .ok (.getfield 13, 3) := by decide +kernel
theorem d_Cd_code_21 : decode b_Cd_code 21 = .ok (.iload_n 1, 1) := by decide +kernel
theorem d_Cd_code_22 : decode b_Cd_code 22 = .ok (.iaload, 1) := by decide +kernel
theorem d_Cd_code_23 : decode b_Cd_code 23 = .ok (.iadd, 1) := by decide +kernel
theorem d_Cd_code_24 : decode b_Cd_code 24 = .ok (.idiv, 1) := by decide +kernel
theorem d_Cd_code_25 : decode b_Cd_code 25 = .ok (.istore_n 3, 1) := by decide +kernel
theorem d_Cd_code_26 : decode b_Cd_code 26 = .ok (.aload_n 0, 1) := by decide +kernel
theorem d_Cd_code_27 : decode b_Cd_code 27 = .ok (.iload_n 3, 1) := by decide +kernel
theorem d_Cd_code_28 : decode b_Cd_code 28 = .ok (.iload_n 2, 1) := by decide +kernel
theorem d_Cd_code_29 : decode b_Cd_code 29 = .ok (.invokevirtual 30, 3) := by decide +kernel
theorem d_Cd_code_32 : decode b_Cd_code 32 = .ok (.istore 4, 2) := by decide +kernel
theorem d_Cd_code_34 : decode b_Cd_code 34 = .ok (.aload_n 0, 1) := by decide +kernel
theorem d_Cd_code_35 : decode b_Cd_code 35 = .ok (.iload 4, 2) := by decide +kernel
theorem d_Cd_code_37 : decode b_Cd_code 37 = .ok (.ifCond .ne 7, 3) := by decide +kernel
theorem d_Cd_code_40 : decode b_Cd_code 40 = .ok (.iload_n 3, 1) := by decide +kernel
theorem d_Cd_code_41 : decode b_Cd_code 41 = .ok (.goto 9, 3) := by decide +kernel
theorem d_Cd_code_44 : decode b_Cd_code 44 = .ok (.aload_n 0, 1) := by decide +kernel
theorem d_Cd_code_45 : decode b_Cd_code 45 = .ok (.getfield 17, 3) := by decide +kernel
theorem d_Cd_code_48 : decode b_Cd_code 48 = .ok (.iload_n 3, 1) := by decide +kernel
theorem d_Cd_code_49 : decode b_Cd_code 49 = .ok (.isub, 1) := by decide +kernel
theorem d_Cd_code_50 : decode b_Cd_code 50 = .ok (.putfield 17, 3) := by decide +kernel
theorem d_Cd_code_53 : decode b_Cd_code 53 = .ok (.aload_n 0, 1) := by decide +kernel
theorem d_Cd_code_54 : decode b_Cd_code 54 = .ok (.iload_n 1, 1) := by decide +kernel
theorem d_Cd_code_55 : decode b_Cd_code 55 = .ok (.iload 4, 2) := by decide +kernel
theorem d_Cd_code_57 : decode b_Cd_code 57 = .ok (.invokevirtual 34, 3) := by decide +kernel
theorem d_Cd_code_60 : decode b_Cd_code 60 = .ok (.iconst 0, 1) := by decide +kernel
theorem d_Cd_code_61 : decode b_Cd_code 61 = .ok (.istore 5, 2) := by decide +kernel
theorem d_Cd_code_63 : decode b_Cd_code 63 = .ok (.iload 5, 2) := by decide +kernel
theorem d_Cd_code_65 : decode b_Cd_code 65 = .ok (.bipush 16, 2) := by decide +kernel
theorem d_Cd_code_67 : decode b_Cd_code 67 = .ok (.if_icmp .ge 32, 3) := by decide +kernel
theorem d_Cd_code_70 : decode b_Cd_code 70 = .ok (.aload_n 0, 1) := by decide +kernel
theorem d_Cd_code_71 : decode b_Cd_code 71 = .ok (.getfield 17, 3) := by decide +kernel
theorem d_Cd_code_74 : decode b_Cd_code 74 = .ok (.ldc 38, 2) := by decide +kernel
theorem d_Cd_code_76 : decode b_Cd_code 76 = .ok (.if_icmp .gt 23, 3) := by decide +kernel
theorem d_Cd_code_79 : decode b_Cd_code 79 = .ok (.aload_n 0, 1) := by decide +kernel
theorem d_Cd_code_80 : decode b_Cd_code 80 = .ok (.dup, 1) := by decide +kernel
theorem d_Cd_code_81 : decode b_Cd_code 81 = .ok (.getfield 17, 3) := by decide +kernel
theorem d_Cd_code_84 : decode b_Cd_code 84 = .ok (.iconst 2, 1) := by decide +kernel
theorem d_Cd_code_85 : decode b_Cd_code 85 = .ok (.imul, 1) := by decide +kernel
theorem d_Cd_code_86 : decode b_Cd_code 86 = .ok (.putfield 17, 3) := by decide +kernel
theorem d_Cd_code_89 : decode b_Cd_code 89 = .ok (.aload_n 0, 1) := by decide +kernel
theorem d_Cd_code_90 : decode b_Cd_code 90 = .ok (.invokevirtual 39, 3) := by decide +kernel
theorem d_Cd_code_93 : decode b_Cd_code 93 = .ok (.iinc 5 1, 3) := by decide +kernel
theorem d_Cd_code_96 : decode b_Cd_code 96 = .ok (.goto (-33), 3) := by decide +kernel
theorem d_Cd_code_99 : decode b_Cd_code 99 = .ok (.iload 4, 2) := by decide +kernel
theorem d_Cd_code_101 : decode b_Cd_code 101 = .ok (.ireturn, 1) := by decide +kernel
theorem d_Cd_tally_0 : decode b_Cd_tally 0 = .ok (.iload_n 2, 1) := by decide +kernel
theorem d_Cd_tally_1 : decode b_Cd_tally 1 = .ok (.ifCond .ne 16, 3) := by decide +kernel
theorem d_Cd_tally_4 : decode b_Cd_tally 4 = .ok (.aload_n 0, 1) := by decide +kernel
theorem d_Cd_tally_5 : decode b_Cd_tally 5 = .ok (.getfield 9, 3) := by decide +kernel
theorem d_Cd_tally_8 : decode b_Cd_tally 8 = .ok (.iload_n 1, 1) := by decide +kernel
theorem d_Cd_tally_9 : decode b_Cd_tally 9 = .ok (.dup2, 1) := by decide +kernel
theorem d_Cd_tally_10 : decode b_Cd_tally 10 = .ok (.iaload, 1) := by decide +kernel
theorem d_Cd_tally_11 : decode b_Cd_tally 11 = .ok (.iconst 1, 1) := by decide +kernel
theorem d_Cd_tally_12 : decode b_Cd_tally 12 = .ok (.iadd, 1) := by decide +kernel
theorem d_Cd_tally_13 : decode b_Cd_tally 13 = .ok (.iastore, 1) := by decide +kernel
theorem d_Cd_tally_14 : decode b_Cd_tally 14 = .ok (.goto 13, 3) := by decide +kernel
theorem d_Cd_tally_17 : decode b_Cd_tally 17 = .ok (.aload_n 0, 1) := by decide +kernel
theorem d_Cd_tally_18 : decode b_Cd_tally 18 = .ok (.getfield 13, 3) := by decide +kernel
theorem d_Cd_tally_21 : decode b_Cd_tally 21 = .ok (.iload_n 1, 1) := by decide +kernel
theorem d_Cd_tally_22 : decode b_Cd_tally 22 = .ok (.dup2, 1) := by decide +kernel
theorem d_Cd_tally_23 : decode b_Cd_tally 23 = .ok (.iaload, 1) := by decide +kernel
theorem d_Cd_tally_24 : decode b_Cd_tally 24 = .ok (.iconst 1, 1) := by decide +kernel
theorem d_Cd_tally_25 : decode b_Cd_tally 25 = .ok (.iadd, 1) := by decide +kernel
theorem d_Cd_tally_26 : decode b_Cd_tally 26 = .ok (.iastore, 1) := by decide +kernel
theorem d_Cd_tally_27 : decode b_Cd_tally 27 = .ok (.aload_n 0, 1) := by decide +kernel
theorem d_Cd_tally_28 : decode b_Cd_tally 28 = .ok (.getfield 9, 3) := by decide +kernel
theorem d_Cd_tally_31 : decode b_Cd_tally 31 = .ok (.iload_n 1, 1) := by decide +kernel
theorem d_Cd_tally_32 : decode b_Cd_tally 32 = .ok (.iaload, 1) := by decide +kernel
theorem d_Cd_tally_33 : decode b_Cd_tally 33 = .ok (.aload_n 0, 1) := by decide +kernel
theorem d_Cd_tally_34 : decode b_Cd_tally 34 = .ok (.getfield 13, 3) := by decide +kernel
theorem d_Cd_tally_37 : decode b_Cd_tally 37 = .ok (.iload_n 1, 1) := by decide +kernel
theorem d_Cd_tally_38 : decode b_Cd_tally 38 = .ok (.iaload, 1) := by decide +kernel
theorem d_Cd_tally_39 : decode b_Cd_tally 39 = .ok (.iadd, 1) := by decide +kernel
theorem d_Cd_tally_40 : decode b_Cd_tally 40 = .ok (.bipush 32, 2) := by decide +kernel
theorem d_Cd_tally_42 : decode b_Cd_tally 42 = .ok (.if_icmp .ne 35, 3) := by decide +kernel
theorem d_Cd_tally_45 : decode b_Cd_tally 45 = .ok (.aload_n 0, 1) := by decide +kernel
theorem d_Cd_tally_46 : decode b_Cd_tally 46 = .ok (.getfield 9, 3) := by decide +kernel
theorem d_Cd_tally_49 : decode b_Cd_tally 49 = .ok (.iload_n 1, 1) := by decide +kernel
theorem d_Cd_tally_50 : decode b_Cd_tally 50 = .ok (.aload_n 0, 1) := by decide +kernel
theorem d_Cd_tally_51 : decode b_Cd_tally 51 = .ok (.getfield 9, 3) := by decide +kernel
theorem d_Cd_tally_54 : decode b_Cd_tally 54 = .ok (.iload_n 1, 1) := by decide +kernel
theorem d_Cd_tally_55 : decode b_Cd_tally 55 = .ok (.iaload, 1) := by decide +kernel
theorem d_Cd_tally_56 : decode b_Cd_tally 56 = .ok (.iconst 1, 1) := by decide +kernel
theorem d_Cd_tally_57 : decode b_Cd_tally 57 = .ok (.iadd, 1) := by decide +kernel
theorem d_Cd_tally_58 : decode b_Cd_tally 58 = .ok (.iconst 2, 1) := by decide +kernel
theorem d_Cd_tally_59 : decode b_Cd_tally 59 = .ok (.idiv, 1) := by decide +kernel
theorem d_Cd_tally_60 : decode b_Cd_tally 60 = .ok (.iastore, 1) := by decide +kernel
theorem d_Cd_tally_61 : decode b_Cd_tally 61 = .ok (.aload_n 0, 1) := by decide +kernel
theorem d_Cd_tally_62 : decode b_Cd_tally 62 = .ok (.getfield 13, 3) := by decide +kernel
theorem d_Cd_tally_65 : decode b_Cd_tally 65 = .ok (.iload_n 1, 1) := by decide +kernel
theorem d_Cd_tally_66 : decode b_Cd_tally 66 = .ok (.aload_n 0, 1) := by decide +kernel
theorem d_Cd_tally_67 : decode b_Cd_tally 67 = .ok (.getfield 13, 3) := by decide +kernel
theorem d_Cd_tally_70 : decode b_Cd_tally 70 = .ok (.iload_n 1, 1) := by decide +kernel
theorem d_Cd_tally_71 : decode b_Cd_tally 71 = .ok (.iaload, 1) := by decide +kernel
theorem d_Cd_tally_72 : decode b_Cd_tally 72 = .ok (.iconst 1, 1) := by decide +kernel
theorem d_Cd_tally_73 : decode b_Cd_tally 73 = .ok (.iadd, 1) := by decide +kernel
theorem d_Cd_tally_74 : decode b_Cd_tally 74 = .ok (.iconst 2, 1) := by decide +kernel
theorem d_Cd_tally_75 : decode b_Cd_tally 75 = .ok (.idiv, 1) := by decide +kernel
theorem d_Cd_tally_76 : decode b_Cd_tally 76 = .ok (.iastore, 1) := by decide +kernel
theorem d_Cd_tally_77 : decode b_Cd_tally 77 = .ok (.return_, 1) := by decide +kernel
theorem d_Dr_init_0 : decode b_Dr_init 0 = .ok (.aload_n 0, 1) := by decide +kernel
theorem d_Dr_init_1 : decode b_Dr_init 1 = .ok (.invokespecial 3, 3) := by decide +kernel
theorem d_Dr_init_4 : decode b_Dr_init 4 = .ok (.aload_n 0, 1) := by decide +kernel
theorem d_Dr_init_5 : decode b_Dr_init 5 = .ok (.new 9, 3) := by decide +kernel
theorem d_Dr_init_8 : decode b_Dr_init 8 = .ok (.dup, 1) := by decide +kernel
theorem d_Dr_init_9 : decode b_Dr_init 9 = .ok (.invokespecial 11, 3) := by decide +kernel
theorem d_Dr_init_12 : decode b_Dr_init 12 = .ok (.putfield 12, 3) := by decide +kernel
theorem d_Dr_init_15 : decode b_Dr_init 15 = .ok (.return_, 1) := by decide +kernel
theorem d_Dr_read_0 : decode b_Dr_read 0 = .ok (.aload_n 2, 1) := by decide +kernel
theorem d_Dr_read_1 : decode b_Dr_read 1 = .ok (.invokevirtual 18, 3) := by decide +kernel
theorem d_Dr_read_4 : decode b_Dr_read 4 = .ok (.aload_n 1, 1) := by decide +kernel
theorem d_Dr_read_5 : decode b_Dr_read 5 = .ok (.iconst 0, 1) := by decide +kernel
theorem d_Dr_read_6 : decode b_Dr_read 6 = .ok (.invokevirtual 23, 3) := by decide +kernel
theorem d_Dr_read_9 : decode b_Dr_read 9 = .ok (.bipush 80, 2) := by decide +kernel
theorem d_Dr_read_11 : decode b_Dr_read 11 = .ok (.if_icmp .ne 13, 3) := by decide +kernel
theorem d_Dr_read_14 : decode b_Dr_read 14 = .ok (.aload_n 1, 1) := by decide +kernel
theorem d_Dr_read_15 : decode b_Dr_read 15 = .ok (.iconst 1, 1) := by decide +kernel
theorem d_Dr_read_16 : decode b_Dr_read 16 = .ok (.invokevirtual 23, 3) := by decide +kernel
theorem d_Dr_read_19 : decode b_Dr_read 19 = .ok (.bipush 71, 2) := by decide +kernel
theorem d_Dr_read_21 : decode b_Dr_read 21 = .ok (.if_icmp .eq 5, 3) := by decide +kernel
theorem d_Dr_read_24 : decode b_Dr_read 24 = .ok (.iconst 1, 1) := by decide +kernel
theorem d_Dr_read_25 : decode b_Dr_read 25 = .ok (.ireturn, 1) := by decide +kernel
theorem d_Dr_read_26 : decode b_Dr_read 26 = .ok (.iconst 0, 1) := by decide +kernel
theorem d_Dr_read_27 : decode b_Dr_read 27 = .ok (.istore_n 3, 1) := by decide +kernel
theorem d_Dr_read_28 : decode b_Dr_read 28 = .ok (.iconst 2, 1) := by decide +kernel
theorem d_Dr_read_29 : decode b_Dr_read 29 = .ok (.istore 4, 2) := by decide +kernel
theorem d_Dr_read_31 : decode b_Dr_read 31 = .ok (.iconst 0, 1) := by decide +kernel
theorem d_Dr_read_32 : decode b_Dr_read 32 = .ok (.istore 5, 2) := by decide +kernel
theorem d_Dr_read_34 : decode b_Dr_read 34 = .ok (.iload 5, 2) := by decide +kernel
theorem d_Dr_read_36 : decode b_Dr_read 36 = .ok (.bipush 16, 2) := by decide +kernel
theorem d_Dr_read_38 : decode b_Dr_read 38 = .ok (.if_icmp .gt 153, 3) := by decide +kernel
theorem d_Dr_read_41 : decode b_Dr_read 41 = .ok (.iload 4, 2) := by decide +kernel
theorem d_Dr_read_43 : decode b_Dr_read 43 = .ok (.aload_n 1, 1) := by decide +kernel
theorem d_Dr_read_44 : decode b_Dr_read 44 = .ok (.getfield 29, 3) := by decide +kernel
theorem d_Dr_read_47 : decode b_Dr_read 47 = .ok (.if_icmp .ge 144, 3) := by decide +kernel
theorem d_Dr_read_50 : decode b_Dr_read 50 = .ok (.iload_n 3, 1) := by decide +kernel
theorem d_Dr_read_51 : decode b_Dr_read 51 = .ok (.ifCond .ne 140, 3) := by decide +kernel
theorem d_Dr_read_54 : decode b_Dr_read 54 = .ok (.iload 4, 2) := by decide +kernel
theorem d_Dr_read_56 : decode b_Dr_read 56 = .ok (.iconst 3, 1) := by decide +kernel
theorem d_Dr_read_57 : decode b_Dr_read 57 = .ok (.iadd, 1) := by decide +kernel
theorem d_Dr_read_58 : decode b_Dr_read 58 = .ok (.istore 6, 2) := by decide +kernel
theorem d_Dr_read_60 : decode b_Dr_read 60 = .ok (.aload_n 1, 1) := by decide +kernel
theorem d_Dr_read_61 : decode b_Dr_read 61 = .ok (.iload 4, 2) := by decide +kernel
theorem d_Dr_read_63 : decode b_Dr_read 63 = .ok (.invokevirtual 33, 3) := by decide +kernel
theorem d_Dr_read_66 : decode b_Dr_read 66 = .ok (.istore 7, 2) := by decide +kernel
theorem d_Dr_read_68 : decode b_Dr_read 68 = .ok (.aload_n 1, 1) := by decide +kernel
theorem d_Dr_read_69 : decode b_Dr_read 69 = .ok (.iload 4, 2) := by decide +kernel
theorem d_Dr_read_71 : decode b_Dr_read 71 = .ok (.invokevirtual 23, 3) := by decide +kernel
theorem d_Dr_read_74 : decode b_Dr_read 74 = .ok (.istore 8, 2) := by decide +kernel
theorem d_Dr_read_76 : decode b_Dr_read 76 = .ok (.iload 7, 2) := by decide +kernel
theorem d_Dr_read_78 : decode b_Dr_read 78 = .ok (.iconst (-1), 1) := by decide +kernel
theorem d_Dr_read_79 : decode b_Dr_read 79 = .ok (.if_icmp .ne 8, 3) := by decide +kernel
theorem d_Dr_read_82 : decode b_Dr_read 82 = .ok (.iconst 2, 1) := by decide +kernel
theorem d_Dr_read_83 : decode b_Dr_read 83 = .ok (.istore_n 3, 1) := by decide +kernel
theorem d_Dr_read_84 : decode b_Dr_read 84 = .ok (.goto 94, 3) := by decide +kernel
theorem d_Dr_read_87 : decode b_Dr_read 87 = .ok (.iload 8, 2) := by decide +kernel
theorem d_Dr_read_89 : decode b_Dr_read 89 = .ok (.iconst 1, 1) := by decide +kernel
theorem d_Dr_read_90 : decode b_Dr_read 90 = .ok (.if_icmp .lt 16, 3) := by decide +kernel
theorem d_Dr_read_93 : decode b_Dr_read 93 = .ok (.iload 8, 2) := by decide +kernel
theorem d_Dr_read_95 : decode b_Dr_read 95 = .ok (.iconst 4, 1) := by decide +kernel
theorem d_Dr_read_96 : decode b_Dr_read 96 = .ok (.if_icmp .gt 10, 3) := by decide +kernel
theorem d_Dr_read_99 : decode b_Dr_read 99 = .ok (.iload 5, 2) := by decide +kernel
theorem d_Dr_read_101 : decode b_Dr_read 101 = .ok (.bipush 16, 2) := by decide +kernel
theorem d_Dr_read_103 : decode b_Dr_read 103 = .ok (.if_icmp .ne 8, 3) := by decide +kernel
theorem d_Dr_read_106 : decode b_Dr_read 106 = .ok (.iconst 3, 1) := by decide +kernel
theorem d_Dr_read_107 : decode b_Dr_read 107 = .ok (.istore_n 3, 1) := by decide +kernel
theorem d_Dr_read_108 : decode b_Dr_read 108 = .ok (.goto 70, 3) := by decide +kernel
theorem d_Dr_read_111 : decode b_Dr_read 111 = .ok (.iload 8, 2) := by decide +kernel
theorem d_Dr_read_113 : decode b_Dr_read 113 = .ok (.iconst 1, 1) := by decide +kernel
theorem d_Dr_read_114 : decode b_Dr_read 114 = .ok (.if_icmp .ne 17, 3) := by decide +kernel
theorem d_Dr_read_117 : decode b_Dr_read 117 = .ok (.aload_n 0, 1) := by decide +kernel
theorem d_Dr_read_118 : decode b_Dr_read 118 = .ok (.aload_n 1, 1) := by decide +kernel
theorem d_Dr_read_119 : decode b_Dr_read 119 = .ok (.iload 6, 2) := by decide +kernel
theorem d_Dr_read_121 : decode b_Dr_read 121 = .ok (.iload 7, 2) := by decide +kernel
theorem d_Dr_read_123 : decode b_Dr_read 123 = .ok (.aload_n 2, 1) := by decide +kernel
theorem d_Dr_read_124 : decode b_Dr_read 124 = .ok (.invokevirtual 36, 3) := by decide +kernel
theorem d_Dr_read_127 : decode b_Dr_read 127 = .ok (.istore_n 3, 1) := by decide +kernel
theorem d_Dr_read_128 : decode b_Dr_read 128 = .ok (.goto 50, 3) := by decide +kernel
theorem d_Dr_read_131 : decode b_Dr_read 131 = .ok (.iload 8, 2) := by decide +kernel
theorem d_Dr_read_133 : decode b_Dr_read 133 = .ok (.iconst 2, 1) := by decide +kernel
theorem d_Dr_read_134 : decode b_Dr_read 134 = .ok (.if_icmp .ne 17, 3) := by decide +kernel
theorem d_Dr_read_137 : decode b_Dr_read 137 = .ok (.aload_n 0, 1) := by decide +kernel
theorem d_Dr_read_138 : decode b_Dr_read 138 = .ok (.aload_n 1, 1) := by decide +kernel
theorem d_Dr_read_139 : decode b_Dr_read 139 = .ok (.iload 6, 2) := by decide +kernel
theorem d_Dr_read_141 : decode b_Dr_read 141 = .ok (.iload 7, 2) := by decide +kernel
theorem d_Dr_read_143 : decode b_Dr_read 143 = .ok (.aload_n 2, 1) := by decide +kernel
theorem d_Dr_read_144 : decode b_Dr_read 144 = .ok (.invokevirtual 40, 3) := by decide +kernel
theorem d_Dr_read_147 : decode b_Dr_read 147 = .ok (.istore_n 3, 1) := by decide +kernel
theorem d_Dr_read_148 : decode b_Dr_read 148 = .ok (.goto 30, 3) := by decide +kernel
theorem d_Dr_read_151 : decode b_Dr_read 151 = .ok (.aload_n 0, 1) := by decide +kernel
theorem d_Dr_read_152 : decode b_Dr_read 152 = .ok (.aload_n 1, 1) := by decide +kernel
theorem d_Dr_read_153 : decode b_Dr_read 153 = .ok (.iload 6, 2) := by decide +kernel
theorem d_Dr_read_155 : decode b_Dr_read 155 = .ok (.iload 7, 2) := by decide +kernel
theorem d_Dr_read_157 : decode b_Dr_read 157 = .ok (.iload 8, 2) := by decide +kernel
theorem d_Dr_read_159 : decode b_Dr_read 159 = .ok (.iconst 3, 1) := by decide +kernel
theorem d_Dr_read_160 : decode b_Dr_read 160 = .ok (.if_icmp .ne 10, 3) := by decide +kernel
theorem d_Dr_read_163 : decode b_Dr_read 163 = .ok (.aload_n 2, 1) := by decide +kernel
theorem d_Dr_read_164 : decode b_Dr_read 164 = .ok (.getfield 43, 3) := by decide +kernel
theorem d_Dr_read_167 : decode b_Dr_read 167 = .ok (.goto 7, 3) := by decide +kernel
theorem d_Dr_read_170 : decode b_Dr_read 170 = .ok (.aload_n 2, 1) := by decide +kernel
theorem d_Dr_read_171 : decode b_Dr_read 171 = .ok (.getfield 47, 3) := by decide +kernel
theorem d_Dr_read_174 : decode b_Dr_read 174 = .ok (.invokevirtual 50, 3) := by decide +kernel
theorem d_Dr_read_177 : decode b_Dr_read 177 = .ok (.istore_n 3, 1) := by decide +kernel
theorem d_Dr_read_178 : decode b_Dr_read 178 = .ok (.iload 6, 2) := by decide +kernel
theorem d_Dr_read_180 : decode b_Dr_read 180 = .ok (.iload 7, 2) := by decide +kernel
theorem d_Dr_read_182 : decode b_Dr_read 182 = .ok (.iadd, 1) := by decide +kernel
theorem d_Dr_read_183 : decode b_Dr_read 183 = .ok (.istore 4, 2) := by decide +kernel
theorem d_Dr_read_185 : decode b_Dr_read 185 = .ok (.iinc 5 1, 3) := by decide +kernel
theorem d_Dr_read_188 : decode b_Dr_read 188 = .ok (.goto (-154), 3) := by decide +kernel
theorem d_Dr_read_191 : decode b_Dr_read 191 = .ok (.iload_n 3, 1) := by decide +kernel
theorem d_Dr_read_192 : decode b_Dr_read 192 = .ok (.ireturn, 1) := by decide +kernel
theorem d_Dr_readShape_0 : decode b_Dr_readShape 0 = .ok (.iload_n 3, 1) := by decide +kernel
theorem d_Dr_readShape_1 : decode b_Dr_readShape 1 = .ok (.iconst 2, 1) := by decide +kernel
theorem d_Dr_readShape_2 : decode b_Dr_readShape 2 = .ok (.if_icmp .lt 16, 3) := by decide +kernel
theorem d_Dr_readShape_5 : decode b_Dr_readShape 5 = .ok (.aload_n 1, 1) := by decide +kernel
theorem d_Dr_readShape_6 : decode b_Dr_readShape 6 = .ok (.iload_n 2, 1) := by decide +kernel
theorem d_Dr_readShape_7 : decode b_Dr_readShape 7 = .ok (.invokevirtual 23, 3) := by decide +kernel
theorem d_Dr_readShape_10 : decode b_Dr_readShape 10 = .ok (.aload 4, 2) := by decide +kernel
theorem d_Dr_readShape_12 : decode b_Dr_readShape 12 = .ok (.getfield 54, 3) := by decide +kernel
theorem d_Dr_readShape_15 : decode b_Dr_readShape 15 = .ok (.if_icmp .le 5, 3) := by decide +kernel
theorem d_Dr_readShape_18 : decode b_Dr_readShape 18 = .ok (.iconst 4, 1) := by decide +kernel
theorem d_Dr_readShape_19 : decode b_Dr_readShape 19 = .ok (.ireturn, 1) := by decide +kernel
theorem d_Dr_readShape_20 : decode b_Dr_readShape 20 = .ok (.aload_n 1, 1) := by decide +kernel
theorem d_Dr_readShape_21 : decode b_Dr_readShape 21 = .ok (.iload_n 2, 1) := by decide +kernel
theorem d_Dr_readShape_22 : decode b_Dr_readShape 22 = .ok (.invokevirtual 23, 3) := by decide +kernel
theorem d_Dr_readShape_25 : decode b_Dr_readShape 25 = .ok (.ifCond .ne 7, 3) := by decide +kernel
theorem d_Dr_readShape_28 : decode b_Dr_readShape 28 = .ok (.iconst (-1), 1) := by decide +kernel
theorem d_Dr_readShape_29 : decode b_Dr_readShape 29 = .ok (.goto 10, 3) := by decide +kernel
theorem d_Dr_readShape_32 : decode b_Dr_readShape 32 = .ok (.aload_n 1, 1) := by decide +kernel
theorem d_Dr_readShape_33 : decode b_Dr_readShape 33 = .ok (.iload_n 2, 1) := by decide +kernel
theorem d_Dr_readShape_34 : decode b_Dr_readShape 34 = .ok (.invokevirtual 23, 3) := by decide +kernel
theorem d_Dr_readShape_37 : decode b_Dr_readShape 37 = .ok (.iconst 1, 1) := by decide +kernel
theorem d_Dr_readShape_38 : decode b_Dr_readShape 38 = .ok (.isub, 1) := by decide +kernel
theorem d_Dr_readShape_39 : decode b_Dr_readShape 39 = .ok (.istore 5, 2) := by decide +kernel
theorem d_Dr_readShape_41 : decode b_Dr_readShape 41 = .ok (.aload_n 1, 1) := by decide +kernel
theorem d_Dr_readShape_42 : decode b_Dr_readShape 42 = .ok (.iload_n 2, 1) := by decide +kernel
theorem d_Dr_readShape_43 : decode b_Dr_readShape 43 = .ok (.iconst 1, 1) := by decide +kernel
theorem d_Dr_readShape_44 : decode b_Dr_readShape 44 = .ok (.iadd, 1) := by decide +kernel
theorem d_Dr_readShape_45 : decode b_Dr_readShape 45 = .ok (.invokevirtual 23, 3) := by decide +kernel
theorem d_Dr_readShape_48 : decode b_Dr_readShape 48 = .ok (.bipush 16, 2) := by decide +kernel
theorem d_Dr_readShape_50 : decode b_Dr_readShape 50 = .ok (.idiv, 1) := by decide +kernel
theorem d_Dr_readShape_51 : decode b_Dr_readShape 51 = .ok (.iconst 1, 1) := by decide +kernel
theorem d_Dr_readShape_52 : decode b_Dr_readShape 52 = .ok (.iadd, 1) := by decide +kernel
theorem d_Dr_readShape_53 : decode b_Dr_readShape 53 = .ok (.istore 6, 2) := by decide +kernel
theorem d_Dr_readShape_55 : decode b_Dr_readShape 55 = .ok (.aload_n 1, 1) := by decide +kernel
theorem d_Dr_readShape_56 : decode b_Dr_readShape 56 = .ok (.iload_n 2, 1) := by decide +kernel
theorem d_Dr_readShape_57 : decode b_Dr_readShape 57 = .ok (.iconst 1, 1) := by decide +kernel
theorem d_Dr_readShape_58 : decode b_Dr_readShape 58 = .ok (.iadd, 1) := by decide +kernel
theorem d_Dr_readShape_59 : decode b_Dr_readShape 59 = .ok (.invokevirtual 23, 3) := by decide +kernel
theorem d_Dr_readShape_62 : decode b_Dr_readShape 62 = .ok (.bipush 16, 2) := by decide +kernel
theorem d_Dr_readShape_64 : decode b_Dr_readShape 64 = .ok (.irem, 1) := by decide +kernel
theorem d_Dr_readShape_65 : decode b_Dr_readShape 65 = .ok (.iconst 1, 1) := by decide +kernel
theorem d_Dr_readShape_66 : decode b_Dr_readShape 66 = .ok (.iadd, 1) := by decide +kernel
theorem d_Dr_readShape_67 : decode b_Dr_readShape 67 = .ok (.istore 7, 2) := by decide +kernel
theorem d_Dr_readShape_69 : decode b_Dr_readShape 69 = .ok (.iload 6, 2) := by decide +kernel
theorem d_Dr_readShape_71 : decode b_Dr_readShape 71 = .ok (.invokestatic 57, 3) := by decide +kernel
theorem d_Dr_readShape_74 : decode b_Dr_readShape 74 = .ok (.ifCond .eq 11, 3) := by decide +kernel
theorem d_Dr_readShape_77 : decode b_Dr_readShape 77 = .ok (.iload 7, 2) := by decide +kernel
theorem d_Dr_readShape_79 : decode b_Dr_readShape 79 = .ok (.invokestatic 57, 3) := by decide +kernel
theorem d_Dr_readShape_82 : decode b_Dr_readShape 82 = .ok (.ifCond .ne 5, 3) := by decide +kernel
theorem d_Dr_readShape_85 : decode b_Dr_readShape 85 = .ok (.iconst 4, 1) := by decide +kernel
theorem d_Dr_readShape_86 : decode b_Dr_readShape 86 = .ok (.ireturn, 1) := by decide +kernel
theorem d_Dr_readShape_87 : decode b_Dr_readShape 87 = .ok (.aload 4, 2) := by decide +kernel
theorem d_Dr_readShape_89 : decode b_Dr_readShape 89 = .ok (.lconst 0, 1) := by decide +kernel
theorem d_Dr_readShape_90 : decode b_Dr_readShape 90 = .ok (.iload 6, 2) := by decide +kernel
theorem d_Dr_readShape_92 : decode b_Dr_readShape 92 = .ok (.iload 7, 2) := by decide +kernel
theorem d_Dr_readShape_94 : decode b_Dr_readShape 94 = .ok (.iload 5, 2) := by decide +kernel
theorem d_Dr_readShape_96 : decode b_Dr_readShape 96 = .ok (.invokevirtual 61, 3) := by decide +kernel
theorem d_Dr_readShape_99 : decode b_Dr_readShape 99 = .ok (.istore 8, 2) := by decide +kernel
theorem d_Dr_readShape_101 : decode b_Dr_readShape 101 = .ok (.iload 8, 2) := by decide +kernel
theorem d_Dr_readShape_103 : decode b_Dr_readShape 103 = .ok (.iconst (-1), 1) := by decide +kernel
theorem d_Dr_readShape_104 : decode b_Dr_readShape 104 = .ok (.if_icmp .ne 5, 3) := by decide +kernel
theorem d_Dr_readShape_107 : decode b_Dr_readShape 107 = .ok (.iconst 4, 1) := by decide +kernel
theorem d_Dr_readShape_108 : decode b_Dr_readShape 108 = .ok (.ireturn, 1) := by decide +kernel
theorem d_Dr_readShape_109 : decode b_Dr_readShape 109 = .ok (.aload_n 0, 1) := by decide +kernel
theorem d_Dr_readShape_110 : decode b_Dr_readShape 110 = .ok (.getfield 12, 3) := by decide +kernel
theorem d_Dr_readShape_113 : decode b_Dr_readShape 113 = .ok (.aload_n 1, 1) := by decide +kernel
theorem d_Dr_readShape_114 : decode b_Dr_readShape 114 = .ok (.getfield 65, 3) := by decide +kernel
theorem d_Dr_readShape_117 : decode b_Dr_readShape 117 = .ok (.iload_n 2, 1) := by decide +kernel
theorem d_Dr_readShape_118 : decode b_Dr_readShape 118 = .ok (.iconst 2, 1) := by decide +kernel
theorem d_Dr_readShape_119 : decode b_Dr_readShape 119 = .ok (.iadd, 1) := by decide +kernel
theorem d_Dr_readShape_120 : decode b_Dr_readShape 120 = .ok (.iload_n 2, 1) := by decide +kernel
theorem d_Dr_readShape_121 : decode b_Dr_readShape 121 = .ok (.iload_n 3, 1) := by decide +kernel
theorem d_Dr_readShape_122 : decode b_Dr_readShape 122 = .ok (.iadd, 1) := by decide +kernel
theorem d_Dr_readShape_123 : decode b_Dr_readShape 123 = .ok (.invokevirtual 69, 3) := by decide +kernel
theorem d_Dr_readShape_126 : decode b_Dr_readShape 126 = .ok (.aload 4, 2) := by decide +kernel
theorem d_Dr_readShape_128 : decode b_Dr_readShape 128 = .ok (.iload 8, 2) := by decide +kernel
theorem d_Dr_readShape_130 : decode b_Dr_readShape 130 = .ok (.aload_n 0, 1) := by decide +kernel
theorem d_Dr_readShape_131 : decode b_Dr_readShape 131 = .ok (.getfield 12, 3) := by decide +kernel
theorem d_Dr_readShape_134 : decode b_Dr_readShape 134 = .ok (.invokevirtual 73, 3) := by decide +kernel
theorem d_Dr_readShape_137 : decode b_Dr_readShape 137 = .ok (.iconst 0, 1) := by decide +kernel
theorem d_Dr_readShape_138 : decode b_Dr_readShape 138 = .ok (.ireturn, 1) := by decide +kernel
theorem d_Dr_readPlacings_0 : decode b_Dr_readPlacings 0 = .ok (.iload_n 3, 1) := by decide +kernel
theorem d_Dr_readPlacings_1 : decode b_Dr_readPlacings 1 = .ok (.iconst 2, 1) := by decide +kernel
theorem d_Dr_readPlacings_2 : decode b_Dr_readPlacings 2 = .ok (.irem, 1) := by decide +kernel
theorem d_Dr_readPlacings_3 : decode b_Dr_readPlacings 3 = .ok (.ifCond .ne 17, 3) := by decide +kernel
theorem d_Dr_readPlacings_6 : decode b_Dr_readPlacings 6 = .ok (.iload_n 3, 1) := by decide +kernel
theorem d_Dr_readPlacings_7 : decode b_Dr_readPlacings 7 = .ok (.iconst 2, 1) := by decide +kernel
theorem d_Dr_readPlacings_8 : decode b_Dr_readPlacings 8 = .ok (.idiv, 1) := by decide +kernel
theorem d_Dr_readPlacings_9 : decode b_Dr_readPlacings 9 = .ok (.bipush 20, 2) := by decide +kernel
theorem d_Dr_readPlacings_11 : decode b_Dr_readPlacings 11 = .ok (.aload 4, 2) := by decide +kernel
theorem d_Dr_readPlacings_13 : decode b_Dr_readPlacings 13 = .ok (.getfield 77, 3) := by decide +kernel
theorem d_Dr_readPlacings_16 : decode b_Dr_readPlacings 16 = .ok (.isub, 1) := by decide +kernel
theorem d_Dr_readPlacings_17 : decode b_Dr_readPlacings 17 = .ok (.if_icmp .le 5, 3) := by decide +kernel
theorem d_Dr_readPlacings_20 : decode b_Dr_readPlacings 20 = .ok (.iconst 5, 1) := by decide +kernel
theorem d_Dr_readPlacings_21 : decode b_Dr_readPlacings 21 = .ok (.ireturn, 1) := by decide +kernel
theorem d_Dr_readPlacings_22 : decode b_Dr_readPlacings 22 = .ok (.iload_n 2, 1) := by decide +kernel
theorem d_Dr_readPlacings_23 : decode b_Dr_readPlacings 23 = .ok (.istore 5, 2) := by decide +kernel
theorem d_Dr_readPlacings_25 : decode b_Dr_readPlacings 25 = .ok (.iload 5, 2) := by decide +kernel
theorem d_Dr_readPlacings_27 : decode b_Dr_readPlacings 27 = .ok (.iload_n 2, 1) := by decide +kernel
theorem d_Dr_readPlacings_28 : decode b_Dr_readPlacings 28 = .ok (.iload_n 3, 1) := by decide +kernel
theorem d_Dr_readPlacings_29 : decode b_Dr_readPlacings 29 = .ok (.iadd, 1) := by decide +kernel
theorem d_Dr_readPlacings_30 : decode b_Dr_readPlacings 30 = .ok (.if_icmp .ge 45, 3) := by decide +kernel
theorem d_Dr_readPlacings_33 : decode b_Dr_readPlacings 33 = .ok (.aload 4, 2) := by decide +kernel
theorem d_Dr_readPlacings_35 : decode b_Dr_readPlacings 35 = .ok (.aload_n 1, 1) := by decide +kernel
theorem d_Dr_readPlacings_36 : decode b_Dr_readPlacings 36 = .ok (.iload 5, 2) := by decide +kernel
theorem d_Dr_readPlacings_38 : decode b_Dr_readPlacings 38 = .ok (.invokevirtual 23, 3) := by decide +kernel
theorem d_Dr_readPlacings_41 : decode b_Dr_readPlacings 41 = .ok (.invokevirtual 80, 3) := by decide +kernel
theorem d_Dr_readPlacings_44 : decode b_Dr_readPlacings 44 = .ok (.ifCond .ne 5, 3) := by decide +kernel
theorem d_Dr_readPlacings_47 : decode b_Dr_readPlacings 47 = .ok (.iconst 5, 1) := by decide +kernel
theorem d_Dr_readPlacings_48 : decode b_Dr_readPlacings 48 = .ok (.ireturn, 1) := by decide +kernel
theorem d_Dr_readPlacings_49 : decode b_Dr_readPlacings 49 = .ok (.aload 4, 2) := by decide +kernel
theorem d_Dr_readPlacings_51 : decode b_Dr_readPlacings 51 = .ok (.aload_n 1, 1) := by decide +kernel
theorem d_Dr_readPlacings_52 : decode b_Dr_readPlacings 52 = .ok (.iload 5, 2) := by decide +kernel
theorem d_Dr_readPlacings_54 : decode b_Dr_readPlacings 54 = .ok (.invokevirtual 23, 3) := by decide +kernel
theorem d_Dr_readPlacings_57 : decode b_Dr_readPlacings 57 = .ok (.aload_n 1, 1) := by decide +kernel
theorem d_Dr_readPlacings_58 : decode b_Dr_readPlacings 58 = .ok (.iload 5, 2) := by decide +kernel
theorem d_Dr_readPlacings_60 : decode b_Dr_readPlacings 60 = .ok (.iconst 1, 1) := by decide +kernel
theorem d_Dr_readPlacings_61 : decode b_Dr_readPlacings 61 = .ok (.iadd, 1) := by decide +kernel
theorem d_Dr_readPlacings_62 : decode b_Dr_readPlacings 62 = .ok (.invokevirtual 23, 3) := by decide +kernel
theorem d_Dr_readPlacings_65 : decode b_Dr_readPlacings 65 = .ok (.invokevirtual 83, 3) := by decide +kernel
theorem d_Dr_readPlacings_68 : decode b_Dr_readPlacings 68 = .ok (.pop, 1) := by decide +kernel
theorem d_Dr_readPlacings_69 : decode b_Dr_readPlacings 69 = .ok (.iinc 5 2, 3) := by decide +kernel
theorem d_Dr_readPlacings_72 : decode b_Dr_readPlacings 72 = .ok (.goto (-47), 3) := by decide +kernel
theorem d_Dr_readPlacings_75 : decode b_Dr_readPlacings 75 = .ok (.iconst 0, 1) := by decide +kernel
theorem d_Dr_readPlacings_76 : decode b_Dr_readPlacings 76 = .ok (.ireturn, 1) := by decide +kernel
theorem d_Dr_readLayer_0 : decode b_Dr_readLayer 0 = .ok (.aload 4, 2) := by decide +kernel
theorem d_Dr_readLayer_2 : decode b_Dr_readLayer 2 = .ok (.getfield 87, 3) := by decide +kernel
theorem d_Dr_readLayer_5 : decode b_Dr_readLayer 5 = .ok (.ifCond .ne 17, 3) := by decide +kernel
theorem d_Dr_readLayer_8 : decode b_Dr_readLayer 8 = .ok (.iload_n 3, 1) := by decide +kernel
theorem d_Dr_readLayer_9 : decode b_Dr_readLayer 9 = .ok (.ifCond .eq 13, 3) := by decide +kernel
theorem d_Dr_readLayer_12 : decode b_Dr_readLayer 12 = .ok (.aload_n 1, 1) := by decide +kernel
theorem d_Dr_readLayer_13 : decode b_Dr_readLayer 13 = .ok (.iload_n 2, 1) := by decide +kernel
theorem d_Dr_readLayer_14 : decode b_Dr_readLayer 14 = .ok (.invokevirtual 23, 3) := by decide +kernel
theorem d_Dr_readLayer_17 : decode b_Dr_readLayer 17 = .ok (.bipush 10, 2) := by decide +kernel
theorem d_Dr_readLayer_19 : decode b_Dr_readLayer 19 = .ok (.if_icmp .le 6, 3) := by decide +kernel
theorem d_Dr_readLayer_22 : decode b_Dr_readLayer 22 = .ok (.bipush 6, 2) := by decide +kernel
theorem d_Dr_readLayer_24 : decode b_Dr_readLayer 24 = .ok (.ireturn, 1) := by decide +kernel
theorem d_Dr_readLayer_25 : decode b_Dr_readLayer 25 = .ok (.aload 4, 2) := by decide +kernel
theorem d_Dr_readLayer_27 : decode b_Dr_readLayer 27 = .ok (.iconst 1, 1) := by decide +kernel
theorem d_Dr_readLayer_28 : decode b_Dr_readLayer 28 = .ok (.putfield 87, 3) := by decide +kernel
theorem d_Dr_readLayer_31 : decode b_Dr_readLayer 31 = .ok (.aload_n 0, 1) := by decide +kernel
theorem d_Dr_readLayer_32 : decode b_Dr_readLayer 32 = .ok (.getfield 12, 3) := by decide +kernel
theorem d_Dr_readLayer_35 : decode b_Dr_readLayer 35 = .ok (.aload_n 1, 1) := by decide +kernel
theorem d_Dr_readLayer_36 : decode b_Dr_readLayer 36 = .ok (.getfield 65, 3) := by decide +kernel
theorem d_Dr_readLayer_39 : decode b_Dr_readLayer 39 = .ok (.iload_n 2, 1) := by decide +kernel
theorem d_Dr_readLayer_40 : decode b_Dr_readLayer 40 = .ok (.iconst 1, 1) := by decide +kernel
theorem d_Dr_readLayer_41 : decode b_Dr_readLayer 41 = .ok (.iadd, 1) := by decide +kernel
theorem d_Dr_readLayer_42 : decode b_Dr_readLayer 42 = .ok (.iload_n 2, 1) := by decide +kernel
theorem d_Dr_readLayer_43 : decode b_Dr_readLayer 43 = .ok (.iload_n 3, 1) := by decide +kernel
theorem d_Dr_readLayer_44 : decode b_Dr_readLayer 44 = .ok (.iadd, 1) := by decide +kernel
theorem d_Dr_readLayer_45 : decode b_Dr_readLayer 45 = .ok (.invokevirtual 69, 3) := by decide +kernel
theorem d_Dr_readLayer_48 : decode b_Dr_readLayer 48 = .ok (.aload 4, 2) := by decide +kernel
theorem d_Dr_readLayer_50 : decode b_Dr_readLayer 50 = .ok (.aload_n 1, 1) := by decide +kernel
theorem d_Dr_readLayer_51 : decode b_Dr_readLayer 51 = .ok (.iload_n 2, 1) := by decide +kernel
theorem d_Dr_readLayer_52 : decode b_Dr_readLayer 52 = .ok (.invokevirtual 23, 3) := by decide +kernel
theorem d_Dr_readLayer_55 : decode b_Dr_readLayer 55 = .ok (.aload_n 0, 1) := by decide +kernel
theorem d_Dr_readLayer_56 : decode b_Dr_readLayer 56 = .ok (.getfield 12, 3) := by decide +kernel
theorem d_Dr_readLayer_59 : decode b_Dr_readLayer 59 = .ok (.invokevirtual 93, 3) := by decide +kernel
theorem d_Dr_readLayer_62 : decode b_Dr_readLayer 62 = .ok (.aload 4, 2) := by decide +kernel
theorem d_Dr_readLayer_64 : decode b_Dr_readLayer 64 = .ok (.invokevirtual 96, 3) := by decide +kernel
theorem d_Dr_readLayer_67 : decode b_Dr_readLayer 67 = .ok (.iconst 0, 1) := by decide +kernel
theorem d_Dr_readLayer_68 : decode b_Dr_readLayer 68 = .ok (.ireturn, 1) := by decide +kernel
theorem d_Dw_init_0 : decode b_Dw_init 0 = .ok (.aload_n 0, 1) := by decide +kernel
theorem d_Dw_init_1 : decode b_Dw_init 1 = .ok (.invokespecial 3, 3) := by decide +kernel
theorem d_Dw_init_4 : decode b_Dw_init 4 = .ok (.aload_n 0, 1) := by decide +kernel
theorem d_Dw_init_5 : decode b_Dw_init 5 = .ok (.new 9, 3) := by decide +kernel
theorem d_Dw_init_8 : decode b_Dw_init 8 = .ok (.dup, 1) := by decide +kernel
theorem d_Dw_init_9 : decode b_Dw_init 9 = .ok (.invokespecial 11, 3) := by decide +kernel
theorem d_Dw_init_12 : decode b_Dw_init 12 = .ok (.putfield 12, 3) := by decide +kernel
theorem d_Dw_init_15 : decode b_Dw_init 15 = .ok (.return_, 1) := by decide +kernel
theorem d_Dw_write_0 : decode b_Dw_write 0 = .ok (.aload_n 3, 1) := by decide +kernel
theorem d_Dw_write_1 : decode b_Dw_write 1 = .ok (.iconst 0, 1) := by decide +kernel
theorem d_Dw_write_2 : decode b_Dw_write 2 = .ok (.invokevirtual 18, 3) := by decide +kernel
theorem d_Dw_write_5 : decode b_Dw_write 5 = .ok (.aload_n 3, 1) := by decide +kernel
theorem d_Dw_write_6 : decode b_Dw_write 6 = .ok (.bipush 80, 2) := by decide +kernel
theorem d_Dw_write_8 : decode b_Dw_write 8 = .ok (.invokevirtual 24, 3) := by decide +kernel
theorem d_Dw_write_11 : decode b_Dw_write 11 = .ok (.aload_n 3, 1) := by decide +kernel
theorem d_Dw_write_12 : decode b_Dw_write 12 = .ok (.bipush 71, 2) := by decide +kernel
theorem d_Dw_write_14 : decode b_Dw_write 14 = .ok (.invokevirtual 24, 3) := by decide +kernel
theorem d_Dw_write_17 : decode b_Dw_write 17 = .ok (.iconst 0, 1) := by decide +kernel
theorem d_Dw_write_18 : decode b_Dw_write 18 = .ok (.istore 4, 2) := by decide +kernel
theorem d_Dw_write_20 : decode b_Dw_write 20 = .ok (.iload 4, 2) := by decide +kernel
theorem d_Dw_write_22 : decode b_Dw_write 22 = .ok (.aload_n 1, 1) := by decide +kernel
theorem d_Dw_write_23 : decode b_Dw_write 23 = .ok (.getfield 27, 3) := by decide +kernel
theorem d_Dw_write_26 : decode b_Dw_write 26 = .ok (.if_icmp .ge 17, 3) := by decide +kernel
theorem d_Dw_write_29 : decode b_Dw_write 29 = .ok (.aload_n 0, 1) := by decide +kernel
theorem d_Dw_write_30 : decode b_Dw_write 30 = .ok (.aload_n 1, 1) := by decide +kernel
theorem d_Dw_write_31 : decode b_Dw_write 31 = .ok (.iload 4, 2) := by decide +kernel
theorem d_Dw_write_33 : decode b_Dw_write 33 = .ok (.aload_n 3, 1) := by decide +kernel
theorem d_Dw_write_34 : decode b_Dw_write 34 = .ok (.invokevirtual 33, 3) := by decide +kernel
theorem d_Dw_write_37 : decode b_Dw_write 37 = .ok (.iinc 4 1, 3) := by decide +kernel
theorem d_Dw_write_40 : decode b_Dw_write 40 = .ok (.goto (-20), 3) := by decide +kernel
theorem d_Dw_write_43 : decode b_Dw_write 43 = .ok (.aload_n 0, 1) := by decide +kernel
theorem d_Dw_write_44 : decode b_Dw_write 44 = .ok (.aload_n 1, 1) := by decide +kernel
theorem d_Dw_write_45 : decode b_Dw_write 45 = .ok (.aload_n 3, 1) := by decide +kernel
theorem d_Dw_write_46 : decode b_Dw_write 46 = .ok (.invokevirtual 37, 3) := by decide +kernel
theorem d_Dw_write_49 : decode b_Dw_write 49 = .ok (.aload_n 0, 1) := by decide +kernel
theorem d_Dw_write_50 : decode b_Dw_write 50 = .ok (.iconst 3, 1) := by decide +kernel
theorem d_Dw_write_51 : decode b_Dw_write 51 = .ok (.aload_n 1, 1) := by decide +kernel
theorem d_Dw_write_52 : decode b_Dw_write 52 = .ok (.getfield 41, 3) := by decide +kernel
theorem d_Dw_write_55 : decode b_Dw_write 55 = .ok (.iload_n 2, 1) := by decide +kernel
theorem d_Dw_write_56 : decode b_Dw_write 56 = .ok (.aload_n 3, 1) := by decide +kernel
theorem d_Dw_write_57 : decode b_Dw_write 57 = .ok (.invokevirtual 45, 3) := by decide +kernel
theorem d_Dw_write_60 : decode b_Dw_write 60 = .ok (.aload_n 0, 1) := by decide +kernel
theorem d_Dw_write_61 : decode b_Dw_write 61 = .ok (.iconst 4, 1) := by decide +kernel
theorem d_Dw_write_62 : decode b_Dw_write 62 = .ok (.aload_n 1, 1) := by decide +kernel
theorem d_Dw_write_63 : decode b_Dw_write 63 = .ok (.getfield 49, 3) := by decide +kernel
theorem d_Dw_write_66 : decode b_Dw_write 66 = .ok (.iload_n 2, 1) := by decide +kernel
theorem d_Dw_write_67 : decode b_Dw_write 67 = .ok (.aload_n 3, 1) := by decide +kernel
theorem d_Dw_write_68 : decode b_Dw_write 68 = .ok (.invokevirtual 45, 3) := by decide +kernel
theorem d_Dw_write_71 : decode b_Dw_write 71 = .ok (.return_, 1) := by decide +kernel
theorem d_Dw_writeShape_0 : decode b_Dw_writeShape 0 = .ok (.aload_n 1, 1) := by decide +kernel
theorem d_Dw_writeShape_1 : decode b_Dw_writeShape 1 = .ok (.getfield 52, 3) := by decide +kernel
theorem d_Dw_writeShape_4 : decode b_Dw_writeShape 4 = .ok (.iload_n 2, 1) := by decide +kernel
theorem d_Dw_writeShape_5 : decode b_Dw_writeShape 5 = .ok (.aaload, 1) := by decide +kernel
theorem d_Dw_writeShape_6 : decode b_Dw_writeShape 6 = .ok (.astore 4, 2) := by decide +kernel
theorem d_Dw_writeShape_8 : decode b_Dw_writeShape 8 = .ok (.aload_n 3, 1) := by decide +kernel
theorem d_Dw_writeShape_9 : decode b_Dw_writeShape 9 = .ok (.iconst 1, 1) := by decide +kernel
theorem d_Dw_writeShape_10 : decode b_Dw_writeShape 10 = .ok (.invokevirtual 56, 3) := by decide +kernel
theorem d_Dw_writeShape_13 : decode b_Dw_writeShape 13 = .ok (.istore 5, 2) := by decide +kernel
theorem d_Dw_writeShape_15 : decode b_Dw_writeShape 15 = .ok (.aload_n 3, 1) := by decide +kernel
theorem d_Dw_writeShape_16 : decode b_Dw_writeShape 16 = .ok (.aload 4, 2) := by decide +kernel
theorem d_Dw_writeShape_18 : decode b_Dw_writeShape 18 = .ok (.getfield 60, 3) := by decide +kernel
theorem d_Dw_writeShape_21 : decode b_Dw_writeShape 21 = .ok (.iconst (-1), 1) := by decide +kernel
theorem d_Dw_writeShape_22 : decode b_Dw_writeShape 22 = .ok (.if_icmp .ne 7, 3) := by decide +kernel
theorem d_Dw_writeShape_25 : decode b_Dw_writeShape 25 = .ok (.iconst 0, 1) := by decide +kernel
theorem d_Dw_writeShape_26 : decode b_Dw_writeShape 26 = .ok (.goto 10, 3) := by decide +kernel
theorem d_Dw_writeShape_29 : decode b_Dw_writeShape 29 = .ok (.aload 4, 2) := by decide +kernel
theorem d_Dw_writeShape_31 : decode b_Dw_writeShape 31 = .ok (.getfield 60, 3) := by decide +kernel
theorem d_Dw_writeShape_34 : decode b_Dw_writeShape 34 = .ok (.iconst 1, 1) := by decide +kernel
theorem d_Dw_writeShape_35 : decode b_Dw_writeShape 35 = .ok (.iadd, 1) := by decide +kernel
theorem d_Dw_writeShape_36 : decode b_Dw_writeShape 36 = .ok (.invokevirtual 24, 3) := by decide +kernel
theorem d_Dw_writeShape_39 : decode b_Dw_writeShape 39 = .ok (.aload_n 3, 1) := by decide +kernel
theorem d_Dw_writeShape_40 : decode b_Dw_writeShape 40 = .ok (.bipush 16, 2) := by decide +kernel
theorem d_Dw_writeShape_42 : decode b_Dw_writeShape 42 = .ok (.aload 4, 2) := by decide +kernel
theorem d_Dw_writeShape_44 : decode b_Dw_writeShape 44 = .ok (.getfield 65, 3) := by decide +kernel
theorem d_Dw_writeShape_47 : decode b_Dw_writeShape 47 = .ok (.iconst 1, 1) := by decide +kernel
theorem d_Dw_writeShape_48 : decode b_Dw_writeShape 48 = .ok (.isub, 1) := by decide +kernel
theorem d_Dw_writeShape_49 : decode b_Dw_writeShape 49 = .ok (.imul, 1) := by decide +kernel
theorem d_Dw_writeShape_50 : decode b_Dw_writeShape 50 = .ok (.aload 4, 2) := by decide +kernel
theorem d_Dw_writeShape_52 : decode b_Dw_writeShape 52 = .ok (.getfield 68, 3) := by decide +kernel
theorem d_Dw_writeShape_55 : decode b_Dw_writeShape 55 = .ok (.iadd, 1) := by decide +kernel
theorem d_Dw_writeShape_56 : decode b_Dw_writeShape 56 = .ok (.iconst 1, 1) := by decide +kernel
theorem d_Dw_writeShape_57 : decode b_Dw_writeShape 57 = .ok (.isub, 1) := by decide +kernel
theorem d_Dw_writeShape_58 : decode b_Dw_writeShape 58 = .ok (.invokevirtual 24, 3) := by decide +kernel
theorem d_Dw_writeShape_61 : decode b_Dw_writeShape 61 = .ok (.aload_n 0, 1) := by decide +kernel
theorem d_Dw_writeShape_62 : decode b_Dw_writeShape 62 = .ok (.getfield 12, 3) := by decide +kernel
theorem d_Dw_writeShape_65 : decode b_Dw_writeShape 65 = .ok (.aload_n 3, 1) := by decide +kernel
theorem d_Dw_writeShape_66 : decode b_Dw_writeShape 66 = .ok (.getfield 71, 3) := by decide +kernel
theorem d_Dw_writeShape_69 : decode b_Dw_writeShape 69 = .ok (.aload_n 3, 1) := by decide +kernel
theorem d_Dw_writeShape_70 : decode b_Dw_writeShape 70 = .ok (.getfield 75, 3) := by decide +kernel
theorem d_Dw_writeShape_73 : decode b_Dw_writeShape 73 = .ok (.invokevirtual 78, 3) := by decide +kernel
theorem d_Dw_writeShape_76 : decode b_Dw_writeShape 76 = .ok (.aload_n 1, 1) := by decide +kernel
theorem d_Dw_writeShape_77 : decode b_Dw_writeShape 77 = .ok (.iload_n 2, 1) := by decide +kernel
theorem d_Dw_writeShape_78 : decode b_Dw_writeShape 78 = .ok (.aload_n 0, 1) := by decide +kernel
theorem d_Dw_writeShape_79 : decode b_Dw_writeShape 79 = .ok (.getfield 12, 3) := by decide +kernel
theorem d_Dw_writeShape_82 : decode b_Dw_writeShape 82 = .ok (.invokevirtual 82, 3) := by decide +kernel
theorem d_Dw_writeShape_85 : decode b_Dw_writeShape 85 = .ok (.aload_n 3, 1) := by decide +kernel
theorem d_Dw_writeShape_86 : decode b_Dw_writeShape 86 = .ok (.aload_n 0, 1) := by decide +kernel
theorem d_Dw_writeShape_87 : decode b_Dw_writeShape 87 = .ok (.getfield 12, 3) := by decide +kernel
theorem d_Dw_writeShape_90 : decode b_Dw_writeShape 90 = .ok (.invokevirtual 86, 3) := by decide +kernel
theorem d_Dw_writeShape_93 : decode b_Dw_writeShape 93 = .ok (.invokevirtual 90, 3) := by decide +kernel
theorem d_Dw_writeShape_96 : decode b_Dw_writeShape 96 = .ok (.aload_n 3, 1) := by decide +kernel
theorem d_Dw_writeShape_97 : decode b_Dw_writeShape 97 = .ok (.iload 5, 2) := by decide +kernel
theorem d_Dw_writeShape_99 : decode b_Dw_writeShape 99 = .ok (.invokevirtual 93, 3) := by decide +kernel
theorem d_Dw_writeShape_102 : decode b_Dw_writeShape 102 = .ok (.return_, 1) := by decide +kernel
theorem d_Dw_writePlacings_0 : decode b_Dw_writePlacings 0 = .ok (.aload_n 2, 1) := by decide +kernel
theorem d_Dw_writePlacings_1 : decode b_Dw_writePlacings 1 = .ok (.iconst 2, 1) := by decide +kernel
theorem d_Dw_writePlacings_2 : decode b_Dw_writePlacings 2 = .ok (.invokevirtual 56, 3) := by decide +kernel
theorem d_Dw_writePlacings_5 : decode b_Dw_writePlacings 5 = .ok (.istore_n 3, 1) := by decide +kernel
theorem d_Dw_writePlacings_6 : decode b_Dw_writePlacings 6 = .ok (.iconst 0, 1) := by decide +kernel
theorem d_Dw_writePlacings_7 : decode b_Dw_writePlacings 7 = .ok (.istore 4, 2) := by decide +kernel
theorem d_Dw_writePlacings_9 : decode b_Dw_writePlacings 9 = .ok (.iload 4, 2) := by decide +kernel
theorem d_Dw_writePlacings_11 : decode b_Dw_writePlacings 11 = .ok (.aload_n 1, 1) := by decide +kernel
theorem d_Dw_writePlacings_12 : decode b_Dw_writePlacings 12 = .ok (.getfield 96, 3) := by decide +kernel
theorem d_Dw_writePlacings_15 : decode b_Dw_writePlacings 15 = .ok (.if_icmp .ge 31, 3) := by decide +kernel
theorem d_Dw_writePlacings_18 : decode b_Dw_writePlacings 18 = .ok (.aload_n 2, 1) := by decide +kernel
theorem d_Dw_writePlacings_19 : decode b_Dw_writePlacings 19 = .ok (.aload_n 1, 1) := by decide +kernel
theorem d_Dw_writePlacings_20 : decode b_Dw_writePlacings 20 = .ok (.getfield 99, 3) := by decide +kernel
theorem d_Dw_writePlacings_23 : decode b_Dw_writePlacings 23 = .ok (.iload 4, 2) := by decide +kernel
theorem d_Dw_writePlacings_25 : decode b_Dw_writePlacings 25 = .ok (.iaload, 1) := by decide +kernel
theorem d_Dw_writePlacings_26 : decode b_Dw_writePlacings 26 = .ok (.invokevirtual 24, 3) := by decide +kernel
theorem d_Dw_writePlacings_29 : decode b_Dw_writePlacings 29 = .ok (.aload_n 2, 1) := by decide +kernel
theorem d_Dw_writePlacings_30 : decode b_Dw_writePlacings 30 = .ok (.aload_n 1, 1) := by decide +kernel
theorem d_Dw_writePlacings_31 : decode b_Dw_writePlacings 31 = .ok (.getfield 102, 3) := by decide +kernel
theorem d_Dw_writePlacings_34 : decode b_Dw_writePlacings 34 = .ok (.iload 4, 2) := by decide +kernel
theorem d_Dw_writePlacings_36 : decode b_Dw_writePlacings 36 = .ok (.iaload, 1) := by decide +kernel
theorem d_Dw_writePlacings_37 : decode b_Dw_writePlacings 37 = .ok (.invokevirtual 24, 3) := by decide +kernel
theorem d_Dw_writePlacings_40 : decode b_Dw_writePlacings 40 = .ok (.iinc 4 1, 3) := by decide +kernel
theorem d_Dw_writePlacings_43 : decode b_Dw_writePlacings 43 = .ok (.goto (-34), 3) := by decide +kernel
theorem d_Dw_writePlacings_46 : decode b_Dw_writePlacings 46 = .ok (.aload_n 2, 1) := by decide +kernel
theorem d_Dw_writePlacings_47 : decode b_Dw_writePlacings 47 = .ok (.iload_n 3, 1) := by decide +kernel
theorem d_Dw_writePlacings_48 : decode b_Dw_writePlacings 48 = .ok (.invokevirtual 93, 3) := by decide +kernel
theorem d_Dw_writePlacings_51 : decode b_Dw_writePlacings 51 = .ok (.return_, 1) := by decide +kernel
theorem d_Dw_writeLayer_0 : decode b_Dw_writeLayer 0 = .ok (.aload 4, 2) := by decide +kernel
theorem d_Dw_writeLayer_2 : decode b_Dw_writeLayer 2 = .ok (.iload_n 1, 1) := by decide +kernel
theorem d_Dw_writeLayer_3 : decode b_Dw_writeLayer 3 = .ok (.invokevirtual 56, 3) := by decide +kernel
theorem d_Dw_writeLayer_6 : decode b_Dw_writeLayer 6 = .ok (.istore 5, 2) := by decide +kernel
theorem d_Dw_writeLayer_8 : decode b_Dw_writeLayer 8 = .ok (.aload 4, 2) := by decide +kernel
theorem d_Dw_writeLayer_10 : decode b_Dw_writeLayer 10 = .ok (.iload_n 3, 1) := by decide +kernel
theorem d_Dw_writeLayer_11 : decode b_Dw_writeLayer 11 = .ok (.invokevirtual 24, 3) := by decide +kernel
theorem d_Dw_writeLayer_14 : decode b_Dw_writeLayer 14 = .ok (.aload_n 2, 1) := by decide +kernel
theorem d_Dw_writeLayer_15 : decode b_Dw_writeLayer 15 = .ok (.invokevirtual 105, 3) := by decide +kernel
theorem d_Dw_writeLayer_18 : decode b_Dw_writeLayer 18 = .ok (.aload_n 0, 1) := by decide +kernel
theorem d_Dw_writeLayer_19 : decode b_Dw_writeLayer 19 = .ok (.getfield 12, 3) := by decide +kernel
theorem d_Dw_writeLayer_22 : decode b_Dw_writeLayer 22 = .ok (.aload 4, 2) := by decide +kernel
theorem d_Dw_writeLayer_24 : decode b_Dw_writeLayer 24 = .ok (.getfield 71, 3) := by decide +kernel
theorem d_Dw_writeLayer_27 : decode b_Dw_writeLayer 27 = .ok (.aload 4, 2) := by decide +kernel
theorem d_Dw_writeLayer_29 : decode b_Dw_writeLayer 29 = .ok (.getfield 75, 3) := by decide +kernel
theorem d_Dw_writeLayer_32 : decode b_Dw_writeLayer 32 = .ok (.invokevirtual 78, 3) := by decide +kernel
theorem d_Dw_writeLayer_35 : decode b_Dw_writeLayer 35 = .ok (.aload_n 2, 1) := by decide +kernel
theorem d_Dw_writeLayer_36 : decode b_Dw_writeLayer 36 = .ok (.iload_n 3, 1) := by decide +kernel
theorem d_Dw_writeLayer_37 : decode b_Dw_writeLayer 37 = .ok (.aload_n 0, 1) := by decide +kernel
theorem d_Dw_writeLayer_38 : decode b_Dw_writeLayer 38 = .ok (.getfield 12, 3) := by decide +kernel
theorem d_Dw_writeLayer_41 : decode b_Dw_writeLayer 41 = .ok (.invokevirtual 110, 3) := by decide +kernel
theorem d_Dw_writeLayer_44 : decode b_Dw_writeLayer 44 = .ok (.aload 4, 2) := by decide +kernel
theorem d_Dw_writeLayer_46 : decode b_Dw_writeLayer 46 = .ok (.aload_n 0, 1) := by decide +kernel
theorem d_Dw_writeLayer_47 : decode b_Dw_writeLayer 47 = .ok (.getfield 12, 3) := by decide +kernel
theorem d_Dw_writeLayer_50 : decode b_Dw_writeLayer 50 = .ok (.invokevirtual 86, 3) := by decide +kernel
theorem d_Dw_writeLayer_53 : decode b_Dw_writeLayer 53 = .ok (.invokevirtual 90, 3) := by decide +kernel
theorem d_Dw_writeLayer_56 : decode b_Dw_writeLayer 56 = .ok (.aload 4, 2) := by decide +kernel
theorem d_Dw_writeLayer_58 : decode b_Dw_writeLayer 58 = .ok (.iload 5, 2) := by decide +kernel
theorem d_Dw_writeLayer_60 : decode b_Dw_writeLayer 60 = .ok (.invokevirtual 93, 3) := by decide +kernel
theorem d_Dw_writeLayer_63 : decode b_Dw_writeLayer 63 = .ok (.return_, 1) := by decide +kernel
theorem d_Ly_init_0 : decode b_Ly_init 0 = .ok (.aload_n 0, 1) := by decide +kernel
theorem d_Ly_init_1 : decode b_Ly_init 1 = .ok (.invokespecial 3, 3) := by decide +kernel
theorem d_Ly_init_4 : decode b_Ly_init 4 = .ok (.aload_n 0, 1) := by decide +kernel
theorem d_Ly_init_5 : decode b_Ly_init 5 = .ok (.iconst 0, 1) := by decide +kernel
theorem d_Ly_init_6 : decode b_Ly_init 6 = .ok (.putfield 9, 3) := by decide +kernel
theorem d_Ly_init_9 : decode b_Ly_init 9 = .ok (.aload_n 0, 1) := by decide +kernel
theorem d_Ly_init_10 : decode b_Ly_init 10 = .ok (.iload_n 1, 1) := by decide +kernel
theorem d_Ly_init_11 : decode b_Ly_init 11 = .ok (.putfield 15, 3) := by decide +kernel
theorem d_Ly_init_14 : decode b_Ly_init 14 = .ok (.aload_n 0, 1) := by decide +kernel
theorem d_Ly_init_15 : decode b_Ly_init 15 = .ok (.iload_n 1, 1) := by decide +kernel
theorem d_Ly_init_16 : decode b_Ly_init 16 = .ok (.iload_n 1, 1) := by decide +kernel
theorem d_Ly_init_17 : decode b_Ly_init 17 = .ok (.imul, 1) := by decide +kernel
theorem d_Ly_init_18 : decode b_Ly_init 18 = .ok (.newarray .int, 2) := by decide +kernel
theorem d_Ly_init_20 : decode b_Ly_init 20 = .ok (.putfield 19, 3) := by decide +kernel
theorem d_Ly_init_23 : decode b_Ly_init 23 = .ok (.aload_n 0, 1) := by decide +kernel
theorem d_Ly_init_24 : decode b_Ly_init 24 = .ok (.iload_n 1, 1) := by decide +kernel
theorem d_Ly_init_25 : decode b_Ly_init 25 = .ok (.iload_n 1, 1) := by decide +kernel
theorem d_Ly_init_26 : decode b_Ly_init 26 = .ok (.imul, 1) := by decide +kernel
theorem d_Ly_init_27 : decode b_Ly_init 27 = .ok (.newarray .int, 2) := by decide +kernel
theorem d_Ly_init_29 : decode b_Ly_init 29 = .ok (.putfield 23, 3) := by decide +kernel
theorem d_Ly_init_32 : decode b_Ly_init 32 = .ok (.aload_n 0, 1) := by decide +kernel
theorem d_Ly_init_33 : decode b_Ly_init 33 = .ok (.iload_n 1, 1) := by decide +kernel
theorem d_Ly_init_34 : decode b_Ly_init 34 = .ok (.iload_n 1, 1) := by decide +kernel
theorem d_Ly_init_35 : decode b_Ly_init 35 = .ok (.imul, 1) := by decide +kernel
theorem d_Ly_init_36 : decode b_Ly_init 36 = .ok (.newarray .int, 2) := by decide +kernel
theorem d_Ly_init_38 : decode b_Ly_init 38 = .ok (.putfield 26, 3) := by decide +kernel
theorem d_Ly_init_41 : decode b_Ly_init 41 = .ok (.aload_n 0, 1) := by decide +kernel
theorem d_Ly_init_42 : decode b_Ly_init 42 = .ok (.iload_n 1, 1) := by decide +kernel
theorem d_Ly_init_43 : decode b_Ly_init 43 = .ok (.newarray .int, 2) := by decide +kernel
theorem d_Ly_init_45 : decode b_Ly_init 45 = .ok (.putfield 29, 3) := by decide +kernel
theorem d_Ly_init_48 : decode b_Ly_init 48 = .ok (.return_, 1) := by decide +kernel
theorem d_Ly_makeEmpty_0 : decode b_Ly_makeEmpty 0 = .ok (.aload_n 0, 1) := by decide +kernel
theorem d_Ly_makeEmpty_1 : decode b_Ly_makeEmpty 1 = .ok (.getfield 19, 3) := by decide +kernel
theorem d_Ly_makeEmpty_4 : decode b_Ly_makeEmpty 4 = .ok (.iconst 0, 1) := by decide +kernel
theorem d_Ly_makeEmpty_5 : decode b_Ly_makeEmpty 5 = .ok (.invokestatic 32, 3) := by decide +kernel
theorem d_Ly_makeEmpty_8 : decode b_Ly_makeEmpty 8 = .ok (.aload_n 0, 1) := by decide +kernel
theorem d_Ly_makeEmpty_9 : decode b_Ly_makeEmpty 9 = .ok (.getfield 23, 3) := by decide +kernel
theorem d_Ly_makeEmpty_12 : decode b_Ly_makeEmpty 12 = .ok (.iconst 0, 1) := by decide +kernel
theorem d_Ly_makeEmpty_13 : decode b_Ly_makeEmpty 13 = .ok (.invokestatic 32, 3) := by decide +kernel
theorem d_Ly_makeEmpty_16 : decode b_Ly_makeEmpty 16 = .ok (.aload_n 0, 1) := by decide +kernel
theorem d_Ly_makeEmpty_17 : decode b_Ly_makeEmpty 17 = .ok (.iconst 0, 1) := by decide +kernel
theorem d_Ly_makeEmpty_18 : decode b_Ly_makeEmpty 18 = .ok (.putfield 9, 3) := by decide +kernel
theorem d_Ly_makeEmpty_21 : decode b_Ly_makeEmpty 21 = .ok (.return_, 1) := by decide +kernel
theorem d_Ly_hasCell_0 : decode b_Ly_hasCell 0 = .ok (.iload_n 1, 1) := by decide +kernel
theorem d_Ly_hasCell_1 : decode b_Ly_hasCell 1 = .ok (.ifCond .lt 27, 3) := by decide +kernel
theorem d_Ly_hasCell_4 : decode b_Ly_hasCell 4 = .ok (.iload_n 1, 1) := by decide +kernel
theorem d_Ly_hasCell_5 : decode b_Ly_hasCell 5 = .ok (.aload_n 0, 1) := by decide +kernel
theorem d_Ly_hasCell_6 : decode b_Ly_hasCell 6 = .ok (.getfield 15, 3) := by decide +kernel
theorem d_Ly_hasCell_9 : decode b_Ly_hasCell 9 = .ok (.if_icmp .ge 19, 3) := by decide +kernel
theorem d_Ly_hasCell_12 : decode b_Ly_hasCell 12 = .ok (.iload_n 2, 1) := by decide +kernel
theorem d_Ly_hasCell_13 : decode b_Ly_hasCell 13 = .ok (.ifCond .lt 15, 3) := by decide +kernel
theorem d_Ly_hasCell_16 : decode b_Ly_hasCell 16 = .ok (.iload_n 2, 1) := by decide +kernel
theorem d_Ly_hasCell_17 : decode b_Ly_hasCell 17 = .ok (.aload_n 0, 1) := by decide +kernel
theorem d_Ly_hasCell_18 : decode b_Ly_hasCell 18 = .ok (.getfield 15, 3) := by decide +kernel
theorem d_Ly_hasCell_21 : decode b_Ly_hasCell 21 = .ok (.if_icmp .ge 7, 3) := by decide +kernel
theorem d_Ly_hasCell_24 : decode b_Ly_hasCell 24 = .ok (.iconst 1, 1) := by decide +kernel
theorem d_Ly_hasCell_25 : decode b_Ly_hasCell 25 = .ok (.goto 4, 3) := by decide +kernel
theorem d_Ly_hasCell_28 : decode b_Ly_hasCell 28 = .ok (.iconst 0, 1) := by decide +kernel
theorem d_Ly_hasCell_29 : decode b_Ly_hasCell 29 = .ok (.ireturn, 1) := by decide +kernel
theorem d_Ly_indexOf_0 : decode b_Ly_indexOf 0 = .ok (.aload_n 0, 1) := by decide +kernel
theorem d_Ly_indexOf_1 : decode b_Ly_indexOf 1 = .ok (.getfield 15, 3) := by decide +kernel
theorem d_Ly_indexOf_4 : decode b_Ly_indexOf 4 = .ok (.iload_n 2, 1) := by decide +kernel
theorem d_Ly_indexOf_5 : decode b_Ly_indexOf 5 = .ok (.imul, 1) := by decide +kernel
theorem d_Ly_indexOf_6 : decode b_Ly_indexOf 6 = .ok (.iload_n 1, 1) := by decide +kernel
theorem d_Ly_indexOf_7 : decode b_Ly_indexOf 7 = .ok (.iadd, 1) := by decide +kernel
theorem d_Ly_indexOf_8 : decode b_Ly_indexOf 8 = .ok (.ireturn, 1) := by decide +kernel
theorem d_Ly_cellAt_0 : decode b_Ly_cellAt 0 = .ok (.aload_n 0, 1) := by decide +kernel
theorem d_Ly_cellAt_1 : decode b_Ly_cellAt 1 = .ok (.iload_n 1, 1) := by decide +kernel
theorem d_Ly_cellAt_2 : decode b_Ly_cellAt 2 = .ok (.iload_n 2, 1) := by decide +kernel
theorem d_Ly_cellAt_3 : decode b_Ly_cellAt 3 = .ok (.invokevirtual 38, 3) := by decide +kernel
theorem d_Ly_cellAt_6 : decode b_Ly_cellAt 6 = .ok (.ifCond .eq 17, 3) := by decide +kernel
theorem d_Ly_cellAt_9 : decode b_Ly_cellAt 9 = .ok (.aload_n 0, 1) := by decide +kernel
theorem d_Ly_cellAt_10 : decode b_Ly_cellAt 10 = .ok (.getfield 19, 3) := by decide +kernel
theorem d_Ly_cellAt_13 : decode b_Ly_cellAt 13 = .ok (.aload_n 0, 1) := by decide +kernel
theorem d_Ly_cellAt_14 : decode b_Ly_cellAt 14 = .ok (.iload_n 1, 1) := by decide +kernel
theorem d_Ly_cellAt_15 : decode b_Ly_cellAt 15 = .ok (.iload_n 2, 1) := by decide +kernel
theorem d_Ly_cellAt_16 : decode b_Ly_cellAt 16 = .ok (.invokevirtual 42, 3) := by decide +kernel
theorem d_Ly_cellAt_19 : decode b_Ly_cellAt 19 = .ok (.iaload, 1) := by decide +kernel
theorem d_Ly_cellAt_20 : decode b_Ly_cellAt 20 = .ok (.goto 4, 3) := by decide +kernel
theorem d_Ly_cellAt_23 : decode b_Ly_cellAt 23 = .ok (.iconst (-1), 1) := by decide +kernel
theorem d_Ly_cellAt_24 : decode b_Ly_cellAt 24 = .ok (.ireturn, 1) := by decide +kernel
theorem d_Ly_coefficientAt_0 : decode b_Ly_coefficientAt 0 = .ok (.aload_n 0, 1) := by decide +kernel
theorem d_Ly_coefficientAt_1 : decode b_Ly_coefficientAt 1 = .ok (.iload_n 1, 1) := by decide +kernel
theorem d_Ly_coefficientAt_2 : decode b_Ly_coefficientAt 2 = .ok (.iload_n 2, 1) := by decide +kernel
theorem d_Ly_coefficientAt_3 : decode b_Ly_coefficientAt 3 = .ok (.invokevirtual 38, 3) := by decide +kernel
theorem d_Ly_coefficientAt_6 : decode b_Ly_coefficientAt 6 = .ok (.ifCond .eq 17, 3) := by decide +kernel
theorem d_Ly_coefficientAt_9 : decode b_Ly_coefficientAt 9 = .ok (.aload_n 0, 1) := by decide +kernel
theorem d_Ly_coefficientAt_10 : decode b_Ly_coefficientAt 10 = .ok (.getfield 23, 3) := by decide +kernel
theorem d_Ly_coefficientAt_13 : decode b_Ly_coefficientAt 13 = .ok (.aload_n 0, 1) := by decide +kernel
theorem d_Ly_coefficientAt_14 : decode b_Ly_coefficientAt 14 = .ok (.iload_n 1, 1) := by decide +kernel
theorem d_Ly_coefficientAt_15 : decode b_Ly_coefficientAt 15 = .ok (.iload_n 2, 1) := by decide +kernel
theorem d_Ly_coefficientAt_16 : decode b_Ly_coefficientAt 16 = .ok (.invokevirtual 42, 3) := by decide +kernel
theorem d_Ly_coefficientAt_19 : decode b_Ly_coefficientAt 19 = .ok (.iaload, 1) := by decide +kernel
theorem d_Ly_coefficientAt_20 : decode b_Ly_coefficientAt 20 = .ok (.goto 4, 3) := by decide +kernel
theorem d_Ly_coefficientAt_23 : decode b_Ly_coefficientAt 23 = .ok (.iconst 0, 1) := by decide +kernel
theorem d_Ly_coefficientAt_24 : decode b_Ly_coefficientAt 24 = .ok (.ireturn, 1) := by decide +kernel
theorem d_Ly_setRow_0 : decode b_Ly_setRow 0 = .ok (.iconst 0, 1) := by decide +kernel
theorem d_Ly_setRow_1 : decode b_Ly_setRow 1 = .ok (.istore 4, 2) := by decide +kernel
theorem d_Ly_setRow_3 : decode b_Ly_setRow 3 = .ok (.iload 4, 2) := by decide +kernel
theorem d_Ly_setRow_5 : decode b_Ly_setRow 5 = .ok (.aload_n 0, 1) := by decide +kernel
theorem d_Ly_setRow_6 : decode b_Ly_setRow 6 = .ok (.getfield 15, 3) := by decide +kernel
theorem d_Ly_setRow_9 : decode b_Ly_setRow 9 = .ok (.if_icmp .ge 33, 3) := by decide +kernel
theorem d_Ly_setRow_12 : decode b_Ly_setRow 12 = .ok (.aload_n 0, 1) := by decide +kernel
theorem d_Ly_setRow_13 : decode b_Ly_setRow 13 = .ok (.getfield 19, 3) := by decide +kernel
theorem d_Ly_setRow_16 : decode b_Ly_setRow 16 = .ok (.aload_n 0, 1) := by decide +kernel
theorem d_Ly_setRow_17 : decode b_Ly_setRow 17 = .ok (.iload 4, 2) := by decide +kernel
theorem d_Ly_setRow_19 : decode b_Ly_setRow 19 = .ok (.iload_n 1, 1) := by decide +kernel
theorem d_Ly_setRow_20 : decode b_Ly_setRow 20 = .ok (.invokevirtual 42, 3) := by decide +kernel
theorem d_Ly_setRow_23 : decode b_Ly_setRow 23 = .ok (.lload_n 2, 1) := by decide +kernel
theorem d_Ly_setRow_24 : decode b_Ly_setRow 24 = .ok (.bipush 8, 2) := by decide +kernel
theorem d_Ly_setRow_26 : decode b_Ly_setRow 26 = .ok (.iload 4, 2) := by decide +kernel
theorem d_Ly_setRow_28 : decode b_Ly_setRow 28 = .ok (.imul, 1) := by decide +kernel
theorem d_Ly_setRow_29 : decode b_Ly_setRow 29 = .ok (.lushr, 1) := by decide +kernel
theorem d_Ly_setRow_30 : decode b_Ly_setRow 30 = .ok (.l2i, 1) := by decide +kernel
theorem d_Ly_setRow_31 : decode b_Ly_setRow 31 = .ok (.sipush 255, 3) := by decide +kernel
theorem d_Ly_setRow_34 : decode b_Ly_setRow 34 = .ok (.iand, 1) := by decide +kernel
theorem d_Ly_setRow_35 : decode b_Ly_setRow 35 = .ok (.iastore, 1) := by decide +kernel
theorem d_Ly_setRow_36 : decode b_Ly_setRow 36 = .ok (.iinc 4 1, 3) := by decide +kernel
theorem d_Ly_setRow_39 : decode b_Ly_setRow 39 = .ok (.goto (-36), 3) := by decide +kernel
theorem d_Ly_setRow_42 : decode b_Ly_setRow 42 = .ok (.return_, 1) := by decide +kernel
theorem d_Ly_liftCells_0 : decode b_Ly_liftCells 0 = .ok (.aload_n 0, 1) := by decide +kernel
theorem d_Ly_liftCells_1 : decode b_Ly_liftCells 1 = .ok (.getfield 19, 3) := by decide +kernel
theorem d_Ly_liftCells_4 : decode b_Ly_liftCells 4 = .ok (.iconst 0, 1) := by decide +kernel
theorem d_Ly_liftCells_5 : decode b_Ly_liftCells 5 = .ok (.aload_n 0, 1) := by decide +kernel
theorem d_Ly_liftCells_6 : decode b_Ly_liftCells 6 = .ok (.getfield 23, 3) := by decide +kernel
theorem d_Ly_liftCells_9 : decode b_Ly_liftCells 9 = .ok (.iconst 0, 1) := by decide +kernel
theorem d_Ly_liftCells_10 : decode b_Ly_liftCells 10 = .ok (.aload_n 0, 1) := by decide +kernel
theorem d_Ly_liftCells_11 : decode b_Ly_liftCells 11 = .ok (.getfield 19, 3) := by decide +kernel
theorem d_Ly_liftCells_14 : decode b_Ly_liftCells 14 = .ok (.arraylength, 1) := by decide +kernel
theorem d_Ly_liftCells_15 : decode b_Ly_liftCells 15 = .ok (.invokestatic 46, 3) := by decide +kernel
theorem d_Ly_liftCells_18 : decode b_Ly_liftCells 18 = .ok (.aload_n 0, 1) := by decide +kernel
theorem d_Ly_liftCells_19 : decode b_Ly_liftCells 19 = .ok (.getfield 15, 3) := by decide +kernel
theorem d_Ly_liftCells_22 : decode b_Ly_liftCells 22 = .ok (.istore_n 1, 1) := by decide +kernel
theorem d_Ly_liftCells_23 : decode b_Ly_liftCells 23 = .ok (.iload_n 1, 1) := by decide +kernel
theorem d_Ly_liftCells_24 : decode b_Ly_liftCells 24 = .ok (.iconst 2, 1) := by decide +kernel
theorem d_Ly_liftCells_25 : decode b_Ly_liftCells 25 = .ok (.if_icmp .lt 58, 3) := by decide +kernel
theorem d_Ly_liftCells_28 : decode b_Ly_liftCells 28 = .ok (.iconst 0, 1) := by decide +kernel
theorem d_Ly_liftCells_29 : decode b_Ly_liftCells 29 = .ok (.istore_n 2, 1) := by decide +kernel
theorem d_Ly_liftCells_30 : decode b_Ly_liftCells 30 = .ok (.iload_n 2, 1) := by decide +kernel
theorem d_Ly_liftCells_31 : decode b_Ly_liftCells 31 = .ok (.iload_n 1, 1) := by decide +kernel
theorem d_Ly_liftCells_32 : decode b_Ly_liftCells 32 = .ok (.if_icmp .ge 21, 3) := by decide +kernel
theorem d_Ly_liftCells_35 : decode b_Ly_liftCells 35 = .ok (.aload_n 0, 1) := by decide +kernel
theorem d_Ly_liftCells_36 : decode b_Ly_liftCells 36 = .ok (.aload_n 0, 1) := by decide +kernel
theorem d_Ly_liftCells_37 : decode b_Ly_liftCells 37 = .ok (.getfield 15, 3) := by decide +kernel
theorem d_Ly_liftCells_40 : decode b_Ly_liftCells 40 = .ok (.iload_n 2, 1) := by decide +kernel
theorem d_Ly_liftCells_41 : decode b_Ly_liftCells 41 = .ok (.imul, 1) := by decide +kernel
theorem d_Ly_liftCells_42 : decode b_Ly_liftCells 42 = .ok (.iconst 1, 1) := by decide +kernel
theorem d_Ly_liftCells_43 : decode b_Ly_liftCells 43 = .ok (.iload_n 1, 1) := by decide +kernel
theorem d_Ly_liftCells_44 : decode b_Ly_liftCells 44 = .ok (.invokevirtual 52, 3) := by decide +kernel
theorem d_Ly_liftCells_47 : decode b_Ly_liftCells 47 = .ok (.iinc 2 1, 3) := by decide +kernel
theorem d_Ly_liftCells_50 : decode b_Ly_liftCells 50 = .ok (.goto (-20), 3) := by decide +kernel
theorem d_Ly_liftCells_53 : decode b_Ly_liftCells 53 = .ok (.iconst 0, 1) := by decide +kernel
theorem d_Ly_liftCells_54 : decode b_Ly_liftCells 54 = .ok (.istore_n 2, 1) := by decide +kernel
theorem d_Ly_liftCells_55 : decode b_Ly_liftCells 55 = .ok (.iload_n 2, 1) := by decide +kernel
theorem d_Ly_liftCells_56 : decode b_Ly_liftCells 56 = .ok (.iload_n 1, 1) := by decide +kernel
theorem d_Ly_liftCells_57 : decode b_Ly_liftCells 57 = .ok (.if_icmp .ge 19, 3) := by decide +kernel
theorem d_Ly_liftCells_60 : decode b_Ly_liftCells 60 = .ok (.aload_n 0, 1) := by decide +kernel
theorem d_Ly_liftCells_61 : decode b_Ly_liftCells 61 = .ok (.iload_n 2, 1) := by decide +kernel
theorem d_Ly_liftCells_62 : decode b_Ly_liftCells 62 = .ok (.aload_n 0, 1) := by decide +kernel
theorem d_Ly_liftCells_63 : decode b_Ly_liftCells 63 = .ok (.getfield 15, 3) := by decide +kernel
theorem d_Ly_liftCells_66 : decode b_Ly_liftCells 66 = .ok (.iload_n 1, 1) := by decide +kernel
theorem d_Ly_liftCells_67 : decode b_Ly_liftCells 67 = .ok (.invokevirtual 52, 3) := by decide +kernel
theorem d_Ly_liftCells_70 : decode b_Ly_liftCells 70 = .ok (.iinc 2 1, 3) := by decide +kernel
theorem d_Ly_liftCells_73 : decode b_Ly_liftCells 73 = .ok (.goto (-18), 3) := by decide +kernel
theorem d_Ly_liftCells_76 : decode b_Ly_liftCells 76 = .ok (.iload_n 1, 1) := by decide +kernel
theorem d_Ly_liftCells_77 : decode b_Ly_liftCells 77 = .ok (.iconst 2, 1) := by decide +kernel
theorem d_Ly_liftCells_78 : decode b_Ly_liftCells 78 = .ok (.idiv, 1) := by decide +kernel
theorem d_Ly_liftCells_79 : decode b_Ly_liftCells 79 = .ok (.istore_n 1, 1) := by decide +kernel
theorem d_Ly_liftCells_80 : decode b_Ly_liftCells 80 = .ok (.goto (-57), 3) := by decide +kernel
theorem d_Ly_liftCells_83 : decode b_Ly_liftCells 83 = .ok (.return_, 1) := by decide +kernel
theorem d_Ly_liftLine_0 : decode b_Ly_liftLine 0 = .ok (.iload_n 3, 1) := by decide +kernel
theorem d_Ly_liftLine_1 : decode b_Ly_liftLine 1 = .ok (.iconst 2, 1) := by decide +kernel
theorem d_Ly_liftLine_2 : decode b_Ly_liftLine 2 = .ok (.idiv, 1) := by decide +kernel
theorem d_Ly_liftLine_3 : decode b_Ly_liftLine 3 = .ok (.istore 4, 2) := by decide +kernel
theorem d_Ly_liftLine_5 : decode b_Ly_liftLine 5 = .ok (.iconst 0, 1) := by decide +kernel
theorem d_Ly_liftLine_6 : decode b_Ly_liftLine 6 = .ok (.istore 5, 2) := by decide +kernel
theorem d_Ly_liftLine_8 : decode b_Ly_liftLine 8 = .ok (.iload 5, 2) := by decide +kernel
theorem d_Ly_liftLine_10 : decode b_Ly_liftLine 10 = .ok (.iload_n 3, 1) := by decide +kernel
theorem d_Ly_liftLine_11 : decode b_Ly_liftLine 11 = .ok (.if_icmp .ge 27, 3) := by decide +kernel
theorem d_Ly_liftLine_14 : decode b_Ly_liftLine 14 = .ok (.aload_n 0, 1) := by decide +kernel
theorem d_Ly_liftLine_15 : decode b_Ly_liftLine 15 = .ok (.getfield 29, 3) := by decide +kernel
theorem d_Ly_liftLine_18 : decode b_Ly_liftLine 18 = .ok (.iload 5, 2) := by decide +kernel
theorem d_Ly_liftLine_20 : decode b_Ly_liftLine 20 = .ok (.aload_n 0, 1) := by decide +kernel
theorem d_Ly_liftLine_21 : decode b_Ly_liftLine 21 = .ok (.getfield 23, 3) := by decide +kernel
theorem d_Ly_liftLine_24 : decode b_Ly_liftLine 24 = .ok (.iload_n 1, 1) := by decide +kernel
theorem d_Ly_liftLine_25 : decode b_Ly_liftLine 25 = .ok (.iload 5, 2) := by decide +kernel
theorem d_Ly_liftLine_27 : decode b_Ly_liftLine 27 = .ok (.iload_n 2, 1) := by decide +kernel
theorem d_Ly_liftLine_28 : decode b_Ly_liftLine 28 = .ok (.imul, 1) := by decide +kernel
theorem d_Ly_liftLine_29 : decode b_Ly_liftLine 29 = .ok (.iadd, 1) := by decide +kernel
theorem d_Ly_liftLine_30 : decode b_Ly_liftLine 30 = .ok (.iaload, 1) := by decide +kernel
theorem d_Ly_liftLine_31 : decode b_Ly_liftLine 31 = .ok (.iastore, 1) := by decide +kernel
theorem d_Ly_liftLine_32 : decode b_Ly_liftLine 32 = .ok (.iinc 5 1, 3) := by decide +kernel
theorem d_Ly_liftLine_35 : decode b_Ly_liftLine 35 = .ok (.goto (-27), 3) := by decide +kernel
theorem d_Ly_liftLine_38 : decode b_Ly_liftLine 38 = .ok (.iconst 0, 1) := by decide +kernel
theorem d_Ly_liftLine_39 : decode b_Ly_liftLine 39 = .ok (.istore 5, 2) := by decide +kernel
theorem d_Ly_liftLine_41 : decode b_Ly_liftLine 41 = .ok (.iconst 0, 1) := by decide +kernel
theorem d_Ly_liftLine_42 : decode b_Ly_liftLine 42 = .ok (.istore 6, 2) := by decide +kernel
theorem d_Ly_liftLine_44 : decode b_Ly_liftLine 44 = .ok (.iload 6, 2) := by decide +kernel
theorem d_Ly_liftLine_46 : decode b_Ly_liftLine 46 = .ok (.iload 4, 2) := by decide +kernel
theorem d_Ly_liftLine_48 : decode b_Ly_liftLine 48 = .ok (.if_icmp .ge 125, 3) := by decide +kernel
theorem d_Ly_liftLine_51 : decode b_Ly_liftLine 51 = .ok (.aload_n 0, 1) := by decide +kernel
theorem d_Ly_liftLine_52 : decode b_Ly_liftLine 52 = .ok (.getfield 29, 3) := by decide +kernel
theorem d_Ly_liftLine_55 : decode b_Ly_liftLine 55 = .ok (.iconst 2, 1) := by decide +kernel
theorem d_Ly_liftLine_56 : decode b_Ly_liftLine 56 = .ok (.iload 6, 2) := by decide +kernel
theorem d_Ly_liftLine_58 : decode b_Ly_liftLine 58 = .ok (.imul, 1) := by decide +kernel
theorem d_Ly_liftLine_59 : decode b_Ly_liftLine 59 = .ok (.iconst 2, 1) := by decide +kernel
theorem d_Ly_liftLine_60 : decode b_Ly_liftLine 60 = .ok (.iadd, 1) := by decide +kernel
theorem d_Ly_liftLine_61 : decode b_Ly_liftLine 61 = .ok (.iload_n 3, 1) := by decide +kernel
theorem d_Ly_liftLine_62 : decode b_Ly_liftLine 62 = .ok (.if_icmp .ge 12, 3) := by decide +kernel
theorem d_Ly_liftLine_65 : decode b_Ly_liftLine 65 = .ok (.iconst 2, 1) := by decide +kernel
theorem d_Ly_liftLine_66 : decode b_Ly_liftLine 66 = .ok (.iload 6, 2) := by decide +kernel
theorem d_Ly_liftLine_68 : decode b_Ly_liftLine 68 = .ok (.imul, 1) := by decide +kernel
theorem d_Ly_liftLine_69 : decode b_Ly_liftLine 69 = .ok (.iconst 2, 1) := by decide +kernel
theorem d_Ly_liftLine_70 : decode b_Ly_liftLine 70 = .ok (.iadd, 1) := by decide +kernel
theorem d_Ly_liftLine_71 : decode b_Ly_liftLine 71 = .ok (.goto 6, 3) := by decide +kernel
theorem d_Ly_liftLine_74 : decode b_Ly_liftLine 74 = .ok (.iload_n 3, 1) := by decide +kernel
theorem d_Ly_liftLine_75 : decode b_Ly_liftLine 75 = .ok (.iconst 2, 1) := by decide +kernel
theorem d_Ly_liftLine_76 : decode b_Ly_liftLine 76 = .ok (.isub, 1) := by decide +kernel
theorem d_Ly_liftLine_77 : decode b_Ly_liftLine 77 = .ok (.iaload, 1) := by decide +kernel
theorem d_Ly_liftLine_78 : decode b_Ly_liftLine 78 = .ok (.istore 7, 2) := by decide +kernel
theorem d_Ly_liftLine_80 : decode b_Ly_liftLine 80 = .ok (.aload_n 0, 1) := by decide +kernel
theorem d_Ly_liftLine_81 : decode b_Ly_liftLine 81 = .ok (.getfield 29, 3) := by decide +kernel
theorem d_Ly_liftLine_84 : decode b_Ly_liftLine 84 = .ok (.iconst 2, 1) := by decide +kernel
theorem d_Ly_liftLine_85 : decode b_Ly_liftLine 85 = .ok (.iload 6, 2) := by decide +kernel
theorem d_Ly_liftLine_87 : decode b_Ly_liftLine 87 = .ok (.imul, 1) := by decide +kernel
theorem d_Ly_liftLine_88 : decode b_Ly_liftLine 88 = .ok (.iconst 1, 1) := by decide +kernel
theorem d_Ly_liftLine_89 : decode b_Ly_liftLine 89 = .ok (.iadd, 1) := by decide +kernel
theorem d_Ly_liftLine_90 : decode b_Ly_liftLine 90 = .ok (.iaload, 1) := by decide +kernel
theorem d_Ly_liftLine_91 : decode b_Ly_liftLine 91 = .ok (.aload_n 0, 1) := by decide +kernel
theorem d_Ly_liftLine_92 : decode b_Ly_liftLine 92 = .ok (.getfield 29, 3) := by decide +kernel
theorem d_Ly_liftLine_95 : decode b_Ly_liftLine 95 = .ok (.iconst 2, 1) := by decide +kernel
theorem d_Ly_liftLine_96 : decode b_Ly_liftLine 96 = .ok (.iload 6, 2) := by decide +kernel
theorem d_Ly_liftLine_98 : decode b_Ly_liftLine 98 = .ok (.imul, 1) := by decide +kernel
theorem d_Ly_liftLine_99 : decode b_Ly_liftLine 99 = .ok (.iaload, 1) := by decide +kernel
theorem d_Ly_liftLine_100 : decode b_Ly_liftLine 100 = .ok (.iload 7, 2) := by decide +kernel
theorem d_Ly_liftLine_102 : decode b_Ly_liftLine 102 = .ok (.iadd, 1) := by decide +kernel
theorem d_Ly_liftLine_103 : decode b_Ly_liftLine 103 = .ok (.iconst 1, 1) := by decide +kernel
theorem d_Ly_liftLine_104 : decode b_Ly_liftLine 104 = .ok (.ishr, 1) := by decide +kernel
theorem d_Ly_liftLine_105 : decode b_Ly_liftLine 105 = .ok (.isub, 1) := by decide +kernel
theorem d_Ly_liftLine_106 : decode b_Ly_liftLine 106 = .ok (.istore 8, 2) := by decide +kernel
theorem d_Ly_liftLine_108 : decode b_Ly_liftLine 108 = .ok (.iload 6, 2) := by decide +kernel
theorem d_Ly_liftLine_110 : decode b_Ly_liftLine 110 = .ok (.ifCond .ne 7, 3) := by decide +kernel
theorem d_Ly_liftLine_113 : decode b_Ly_liftLine 113 = .ok (.iload 8, 2) := by decide +kernel
theorem d_Ly_liftLine_115 : decode b_Ly_liftLine 115 = .ok (.istore 5, 2) := by decide +kernel
theorem d_Ly_liftLine_117 : decode b_Ly_liftLine 117 = .ok (.aload_n 0, 1) := by decide +kernel
theorem d_Ly_liftLine_118 : decode b_Ly_liftLine 118 = .ok (.getfield 23, 3) := by decide +kernel
theorem d_Ly_liftLine_121 : decode b_Ly_liftLine 121 = .ok (.iload_n 1, 1) := by decide +kernel
theorem d_Ly_liftLine_122 : decode b_Ly_liftLine 122 = .ok (.iload 6, 2) := by decide +kernel
theorem d_Ly_liftLine_124 : decode b_Ly_liftLine 124 = .ok (.iload_n 2, 1) := by decide +kernel
theorem d_Ly_liftLine_125 : decode b_Ly_liftLine 125 = .ok (.imul, 1) := by decide +kernel
theorem d_Ly_liftLine_126 : decode b_Ly_liftLine 126 = .ok (.iadd, 1) := by decide +kernel
theorem d_Ly_liftLine_127 : decode b_Ly_liftLine 127 = .ok (.aload_n 0, 1) := by decide +kernel
theorem d_Ly_liftLine_128 : decode b_Ly_liftLine 128 = .ok (.getfield 29, 3) := by decide +kernel
theorem d_Ly_liftLine_131 : decode b_Ly_liftLine 131 = .ok (.iconst 2, 1) := by decide +kernel
theorem d_Ly_liftLine_132 : decode b_Ly_liftLine 132 = .ok (.iload 6, 2) := by decide +kernel
theorem d_Ly_liftLine_134 : decode b_Ly_liftLine 134 = .ok (.imul, 1) := by decide +kernel
theorem d_Ly_liftLine_135 : decode b_Ly_liftLine 135 = .ok (.iaload, 1) := by decide +kernel
theorem d_Ly_liftLine_136 : decode b_Ly_liftLine 136 = .ok (.iload 5, 2) := by decide +kernel
theorem d_Ly_liftLine_138 : decode b_Ly_liftLine 138 = .ok (.iload 8, 2) := by decide +kernel
theorem d_Ly_liftLine_140 : decode b_Ly_liftLine 140 = .ok (.iadd, 1) := by decide +kernel
theorem d_Ly_liftLine_141 : decode b_Ly_liftLine 141 = .ok (.iconst 2, 1) := by decide +kernel
theorem d_Ly_liftLine_142 : decode b_Ly_liftLine 142 = .ok (.iadd, 1) := by decide +kernel
theorem d_Ly_liftLine_143 : decode b_Ly_liftLine 143 = .ok (.iconst 2, 1) := by decide +kernel
theorem d_Ly_liftLine_144 : decode b_Ly_liftLine 144 = .ok (.ishr, 1) := by decide +kernel
theorem d_Ly_liftLine_145 : decode b_Ly_liftLine 145 = .ok (.iadd, 1) := by decide +kernel
theorem d_Ly_liftLine_146 : decode b_Ly_liftLine 146 = .ok (.iastore, 1) := by decide +kernel
theorem d_Ly_liftLine_147 : decode b_Ly_liftLine 147 = .ok (.aload_n 0, 1) := by decide +kernel
theorem d_Ly_liftLine_148 : decode b_Ly_liftLine 148 = .ok (.getfield 23, 3) := by decide +kernel
theorem d_Ly_liftLine_151 : decode b_Ly_liftLine 151 = .ok (.iload_n 1, 1) := by decide +kernel
theorem d_Ly_liftLine_152 : decode b_Ly_liftLine 152 = .ok (.iload 4, 2) := by decide +kernel
theorem d_Ly_liftLine_154 : decode b_Ly_liftLine 154 = .ok (.iload 6, 2) := by decide +kernel
theorem d_Ly_liftLine_156 : decode b_Ly_liftLine 156 = .ok (.iadd, 1) := by decide +kernel
theorem d_Ly_liftLine_157 : decode b_Ly_liftLine 157 = .ok (.iload_n 2, 1) := by decide +kernel
theorem d_Ly_liftLine_158 : decode b_Ly_liftLine 158 = .ok (.imul, 1) := by decide +kernel
theorem d_Ly_liftLine_159 : decode b_Ly_liftLine 159 = .ok (.iadd, 1) := by decide +kernel
theorem d_Ly_liftLine_160 : decode b_Ly_liftLine 160 = .ok (.iload 8, 2) := by decide +kernel
theorem d_Ly_liftLine_162 : decode b_Ly_liftLine 162 = .ok (.iastore, 1) := by decide +kernel
theorem d_Ly_liftLine_163 : decode b_Ly_liftLine 163 = .ok (.iload 8, 2) := by decide +kernel
theorem d_Ly_liftLine_165 : decode b_Ly_liftLine 165 = .ok (.istore 5, 2) := by decide +kernel
theorem d_Ly_liftLine_167 : decode b_Ly_liftLine 167 = .ok (.iinc 6 1, 3) := by decide +kernel
theorem d_Ly_liftLine_170 : decode b_Ly_liftLine 170 = .ok (.goto (-126), 3) := by decide +kernel
theorem d_Ly_liftLine_173 : decode b_Ly_liftLine 173 = .ok (.return_, 1) := by decide +kernel
