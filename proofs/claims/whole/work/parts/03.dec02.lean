theorem d_Md_cut_0 : decode b_Md_cut 0 = .ok (.iload_n 1, 1) := by decide +kernel
theorem d_Md_cut_1 : decode b_Md_cut 1 = .ok (.aload_n 0, 1) := by decide +kernel
theorem d_Md_cut_2 : decode b_Md_cut 2 = .ok (.getfield 120, 3) := by decide +kernel
theorem d_Md_cut_5 : decode b_Md_cut 5 = .ok (.invokestatic 75, 3) := by decide +kernel
theorem d_Md_cut_8 : decode b_Md_cut 8 = .ok (.ifCond .eq 5, 3) := by decide +kernel
theorem d_Md_cut_11 : decode b_Md_cut 11 = .ok (.iconst 0, 1) := by decide +kernel
theorem d_Md_cut_12 : decode b_Md_cut 12 = .ok (.ireturn, 1) := by decide +kernel
theorem d_Md_cut_13 : decode b_Md_cut 13 = .ok (.aload_n 0, 1) := by decide +kernel
theorem d_Md_cut_14 : decode b_Md_cut 14 = .ok (.iload_n 1, 1) := by decide +kernel
theorem d_Md_cut_15 : decode b_Md_cut 15 = .ok (.putfield 120, 3) := by decide +kernel
theorem d_Md_cut_18 : decode b_Md_cut 18 = .ok (.iconst 1, 1) := by decide +kernel
theorem d_Md_cut_19 : decode b_Md_cut 19 = .ok (.ireturn, 1) := by decide +kernel
theorem d_Md_chunkLength_0 : decode b_Md_chunkLength 0 = .ok (.sipush 256, 3) := by decide +kernel
theorem d_Md_chunkLength_3 : decode b_Md_chunkLength 3 = .ok (.aload_n 0, 1) := by decide +kernel
theorem d_Md_chunkLength_4 : decode b_Md_chunkLength 4 = .ok (.getfield 32, 3) := by decide +kernel
theorem d_Md_chunkLength_7 : decode b_Md_chunkLength 7 = .ok (.iload_n 1, 1) := by decide +kernel
theorem d_Md_chunkLength_8 : decode b_Md_chunkLength 8 = .ok (.iconst 1, 1) := by decide +kernel
theorem d_Md_chunkLength_9 : decode b_Md_chunkLength 9 = .ok (.iadd, 1) := by decide +kernel
theorem d_Md_chunkLength_10 : decode b_Md_chunkLength 10 = .ok (.iaload, 1) := by decide +kernel
theorem d_Md_chunkLength_11 : decode b_Md_chunkLength 11 = .ok (.imul, 1) := by decide +kernel
theorem d_Md_chunkLength_12 : decode b_Md_chunkLength 12 = .ok (.aload_n 0, 1) := by decide +kernel
theorem d_Md_chunkLength_13 : decode b_Md_chunkLength 13 = .ok (.getfield 32, 3) := by decide +kernel
theorem d_Md_chunkLength_16 : decode b_Md_chunkLength 16 = .ok (.iload_n 1, 1) := by decide +kernel
theorem d_Md_chunkLength_17 : decode b_Md_chunkLength 17 = .ok (.iconst 2, 1) := by decide +kernel
theorem d_Md_chunkLength_18 : decode b_Md_chunkLength 18 = .ok (.iadd, 1) := by decide +kernel
theorem d_Md_chunkLength_19 : decode b_Md_chunkLength 19 = .ok (.iaload, 1) := by decide +kernel
theorem d_Md_chunkLength_20 : decode b_Md_chunkLength 20 = .ok (.iadd, 1) := by decide +kernel
theorem d_Md_chunkLength_21 : decode b_Md_chunkLength 21 = .ok (.ireturn, 1) := by decide +kernel
theorem d_Md_before_0 : decode b_Md_before 0 = .ok (.iconst 0, 1) := by decide +kernel
theorem d_Md_before_1 : decode b_Md_before 1 = .ok (.istore_n 3, 1) := by decide +kernel
theorem d_Md_before_2 : decode b_Md_before 2 = .ok (.iconst 2, 1) := by decide +kernel
theorem d_Md_before_3 : decode b_Md_before 3 = .ok (.istore 4, 2) := by decide +kernel
theorem d_Md_before_5 : decode b_Md_before 5 = .ok (.iload 4, 2) := by decide +kernel
theorem d_Md_before_7 : decode b_Md_before 7 = .ok (.iload_n 1, 1) := by decide +kernel
theorem d_Md_before_8 : decode b_Md_before 8 = .ok (.if_icmp .ge 42, 3) := by decide +kernel
theorem d_Md_before_11 : decode b_Md_before 11 = .ok (.iload_n 3, 1) := by decide +kernel
theorem d_Md_before_12 : decode b_Md_before 12 = .ok (.iload_n 2, 1) := by decide +kernel
theorem d_Md_before_13 : decode b_Md_before 13 = .ok (.ifCond .eq 14, 3) := by decide +kernel
theorem d_Md_before_16 : decode b_Md_before 16 = .ok (.aload_n 0, 1) := by decide +kernel
theorem d_Md_before_17 : decode b_Md_before 17 = .ok (.getfield 32, 3) := by decide +kernel
theorem d_Md_before_20 : decode b_Md_before 20 = .ok (.iload 4, 2) := by decide +kernel
theorem d_Md_before_22 : decode b_Md_before 22 = .ok (.iaload, 1) := by decide +kernel
theorem d_Md_before_23 : decode b_Md_before 23 = .ok (.iload_n 2, 1) := by decide +kernel
theorem d_Md_before_24 : decode b_Md_before 24 = .ok (.if_icmp .ne 7, 3) := by decide +kernel
theorem d_Md_before_27 : decode b_Md_before 27 = .ok (.iconst 1, 1) := by decide +kernel
theorem d_Md_before_28 : decode b_Md_before 28 = .ok (.goto 4, 3) := by decide +kernel
theorem d_Md_before_31 : decode b_Md_before 31 = .ok (.iconst 0, 1) := by decide +kernel
theorem d_Md_before_32 : decode b_Md_before 32 = .ok (.iadd, 1) := by decide +kernel
theorem d_Md_before_33 : decode b_Md_before 33 = .ok (.istore_n 3, 1) := by decide +kernel
theorem d_Md_before_34 : decode b_Md_before 34 = .ok (.iload 4, 2) := by decide +kernel
theorem d_Md_before_36 : decode b_Md_before 36 = .ok (.iconst 3, 1) := by decide +kernel
theorem d_Md_before_37 : decode b_Md_before 37 = .ok (.aload_n 0, 1) := by decide +kernel
theorem d_Md_before_38 : decode b_Md_before 38 = .ok (.iload 4, 2) := by decide +kernel
theorem d_Md_before_40 : decode b_Md_before 40 = .ok (.invokevirtual 165, 3) := by decide +kernel
theorem d_Md_before_43 : decode b_Md_before 43 = .ok (.iadd, 1) := by decide +kernel
theorem d_Md_before_44 : decode b_Md_before 44 = .ok (.iadd, 1) := by decide +kernel
theorem d_Md_before_45 : decode b_Md_before 45 = .ok (.istore 4, 2) := by decide +kernel
theorem d_Md_before_47 : decode b_Md_before 47 = .ok (.goto (-42), 3) := by decide +kernel
theorem d_Md_before_50 : decode b_Md_before 50 = .ok (.iload_n 3, 1) := by decide +kernel
theorem d_Md_before_51 : decode b_Md_before 51 = .ok (.ireturn, 1) := by decide +kernel
theorem d_Md_placingsBefore_0 : decode b_Md_placingsBefore 0 = .ok (.iconst 0, 1) := by decide +kernel
theorem d_Md_placingsBefore_1 : decode b_Md_placingsBefore 1 = .ok (.istore_n 2, 1) := by decide +kernel
theorem d_Md_placingsBefore_2 : decode b_Md_placingsBefore 2 = .ok (.iconst 2, 1) := by decide +kernel
theorem d_Md_placingsBefore_3 : decode b_Md_placingsBefore 3 = .ok (.istore_n 3, 1) := by decide +kernel
theorem d_Md_placingsBefore_4 : decode b_Md_placingsBefore 4 = .ok (.iload_n 3, 1) := by decide +kernel
theorem d_Md_placingsBefore_5 : decode b_Md_placingsBefore 5 = .ok (.iload_n 1, 1) := by decide +kernel
theorem d_Md_placingsBefore_6 : decode b_Md_placingsBefore 6 = .ok (.if_icmp .ge 40, 3) := by decide +kernel
theorem d_Md_placingsBefore_9 : decode b_Md_placingsBefore 9 = .ok (.iload_n 2, 1) := by decide +kernel
theorem d_Md_placingsBefore_10 : decode b_Md_placingsBefore 10 = .ok (.aload_n 0, 1) := by decide +kernel
theorem d_Md_placingsBefore_11 : decode b_Md_placingsBefore 11 = .ok (.getfield 32, 3) := by decide +kernel
theorem d_Md_placingsBefore_14 : decode b_Md_placingsBefore 14 = .ok (.iload_n 3, 1) := by decide +kernel
theorem d_Md_placingsBefore_15 : decode b_Md_placingsBefore 15 = .ok (.iaload, 1) := by decide +kernel
theorem d_Md_placingsBefore_16 : decode b_Md_placingsBefore 16 = .ok (.iconst 2, 1) := by decide +kernel
theorem d_Md_placingsBefore_17 : decode b_Md_placingsBefore 17 = .ok (.if_icmp .ne 13, 3) := by decide +kernel
theorem d_Md_placingsBefore_20 : decode b_Md_placingsBefore 20 = .ok (.aload_n 0, 1) := by decide +kernel
theorem d_Md_placingsBefore_21 : decode b_Md_placingsBefore 21 = .ok (.iload_n 3, 1) := by decide +kernel
theorem d_Md_placingsBefore_22 : decode b_Md_placingsBefore 22 = .ok (.invokevirtual 165, 3) := by decide +kernel
theorem d_Md_placingsBefore_25 : decode b_Md_placingsBefore 25 = .ok (.iconst 2, 1) := by decide +kernel
theorem d_Md_placingsBefore_26 : decode b_Md_placingsBefore 26 = .ok (.idiv, 1) := by decide +kernel
theorem d_Md_placingsBefore_27 : decode b_Md_placingsBefore 27 = .ok (.goto 4, 3) := by decide +kernel
theorem d_Md_placingsBefore_30 : decode b_Md_placingsBefore 30 = .ok (.iconst 0, 1) := by decide +kernel
theorem d_Md_placingsBefore_31 : decode b_Md_placingsBefore 31 = .ok (.iadd, 1) := by decide +kernel
theorem d_Md_placingsBefore_32 : decode b_Md_placingsBefore 32 = .ok (.istore_n 2, 1) := by decide +kernel
theorem d_Md_placingsBefore_33 : decode b_Md_placingsBefore 33 = .ok (.iload_n 3, 1) := by decide +kernel
theorem d_Md_placingsBefore_34 : decode b_Md_placingsBefore 34 = .ok (.iconst 3, 1) := by decide +kernel
theorem d_Md_placingsBefore_35 : decode b_Md_placingsBefore 35 = .ok (.aload_n 0, 1) := by decide +kernel
theorem d_Md_placingsBefore_36 : decode b_Md_placingsBefore 36 = .ok (.iload_n 3, 1) := by decide +kernel
theorem d_Md_placingsBefore_37 : decode b_Md_placingsBefore 37 = .ok (.invokevirtual 165, 3) := by decide +kernel
theorem d_Md_placingsBefore_40 : decode b_Md_placingsBefore 40 = .ok (.iadd, 1) := by decide +kernel
theorem d_Md_placingsBefore_41 : decode b_Md_placingsBefore 41 = .ok (.iadd, 1) := by decide +kernel
theorem d_Md_placingsBefore_42 : decode b_Md_placingsBefore 42 = .ok (.istore_n 3, 1) := by decide +kernel
theorem d_Md_placingsBefore_43 : decode b_Md_placingsBefore 43 = .ok (.goto (-39), 3) := by decide +kernel
theorem d_Md_placingsBefore_46 : decode b_Md_placingsBefore 46 = .ok (.iload_n 2, 1) := by decide +kernel
theorem d_Md_placingsBefore_47 : decode b_Md_placingsBefore 47 = .ok (.ireturn, 1) := by decide +kernel
theorem d_Md_chunkFault_0 : decode b_Md_chunkFault 0 = .ok (.aload_n 0, 1) := by decide +kernel
theorem d_Md_chunkFault_1 : decode b_Md_chunkFault 1 = .ok (.getfield 120, 3) := by decide +kernel
theorem d_Md_chunkFault_4 : decode b_Md_chunkFault 4 = .ok (.iload_n 1, 1) := by decide +kernel
theorem d_Md_chunkFault_5 : decode b_Md_chunkFault 5 = .ok (.isub, 1) := by decide +kernel
theorem d_Md_chunkFault_6 : decode b_Md_chunkFault 6 = .ok (.iconst 3, 1) := by decide +kernel
theorem d_Md_chunkFault_7 : decode b_Md_chunkFault 7 = .ok (.if_icmp .lt 19, 3) := by decide +kernel
theorem d_Md_chunkFault_10 : decode b_Md_chunkFault 10 = .ok (.aload_n 0, 1) := by decide +kernel
theorem d_Md_chunkFault_11 : decode b_Md_chunkFault 11 = .ok (.getfield 120, 3) := by decide +kernel
theorem d_Md_chunkFault_14 : decode b_Md_chunkFault 14 = .ok (.iload_n 1, 1) := by decide +kernel
theorem d_Md_chunkFault_15 : decode b_Md_chunkFault 15 = .ok (.isub, 1) := by decide +kernel
theorem d_Md_chunkFault_16 : decode b_Md_chunkFault 16 = .ok (.iconst 3, 1) := by decide +kernel
theorem d_Md_chunkFault_17 : decode b_Md_chunkFault 17 = .ok (.isub, 1) := by decide +kernel
theorem d_Md_chunkFault_18 : decode b_Md_chunkFault 18 = .ok (.aload_n 0, 1) := by decide +kernel
theorem d_Md_chunkFault_19 : decode b_Md_chunkFault 19 = .ok (.iload_n 1, 1) := by decide +kernel
theorem d_Md_chunkFault_20 : decode b_Md_chunkFault 20 = .ok (.invokevirtual 165, 3) := by decide +kernel
theorem d_Md_chunkFault_23 : decode b_Md_chunkFault 23 = .ok (.if_icmp .ge 5, 3) := by decide +kernel
theorem d_Md_chunkFault_26 : decode b_Md_chunkFault 26 = .ok (.iconst 2, 1) := by decide +kernel
theorem d_Md_chunkFault_27 : decode b_Md_chunkFault 27 = .ok (.ireturn, 1) := by decide +kernel
theorem d_Md_chunkFault_28 : decode b_Md_chunkFault 28 = .ok (.aload_n 0, 1) := by decide +kernel
theorem d_Md_chunkFault_29 : decode b_Md_chunkFault 29 = .ok (.getfield 32, 3) := by decide +kernel
theorem d_Md_chunkFault_32 : decode b_Md_chunkFault 32 = .ok (.iload_n 1, 1) := by decide +kernel
theorem d_Md_chunkFault_33 : decode b_Md_chunkFault 33 = .ok (.iaload, 1) := by decide +kernel
theorem d_Md_chunkFault_34 : decode b_Md_chunkFault 34 = .ok (.istore_n 2, 1) := by decide +kernel
theorem d_Md_chunkFault_35 : decode b_Md_chunkFault 35 = .ok (.aload_n 0, 1) := by decide +kernel
theorem d_Md_chunkFault_36 : decode b_Md_chunkFault 36 = .ok (.iload_n 1, 1) := by decide +kernel
theorem d_Md_chunkFault_37 : decode b_Md_chunkFault 37 = .ok (.invokevirtual 165, 3) := by decide +kernel
theorem d_Md_chunkFault_40 : decode b_Md_chunkFault 40 = .ok (.istore_n 3, 1) := by decide +kernel
theorem d_Md_chunkFault_41 : decode b_Md_chunkFault 41 = .ok (.iload_n 2, 1) := by decide +kernel
theorem d_Md_chunkFault_42 : decode b_Md_chunkFault 42 = .ok (.iconst 1, 1) := by decide +kernel
theorem d_Md_chunkFault_43 : decode b_Md_chunkFault 43 = .ok (.isub, 1) := by decide +kernel
theorem d_Md_chunkFault_44 : decode b_Md_chunkFault 44 = .ok (.iconst 3, 1) := by decide +kernel
theorem d_Md_chunkFault_45 : decode b_Md_chunkFault 45 = .ok (.invokestatic 75, 3) := by decide +kernel
theorem d_Md_chunkFault_48 : decode b_Md_chunkFault 48 = .ok (.ifCond .ne 14, 3) := by decide +kernel
theorem d_Md_chunkFault_51 : decode b_Md_chunkFault 51 = .ok (.aload_n 0, 1) := by decide +kernel
theorem d_Md_chunkFault_52 : decode b_Md_chunkFault 52 = .ok (.iload_n 1, 1) := by decide +kernel
theorem d_Md_chunkFault_53 : decode b_Md_chunkFault 53 = .ok (.iconst 0, 1) := by decide +kernel
theorem d_Md_chunkFault_54 : decode b_Md_chunkFault 54 = .ok (.invokevirtual 168, 3) := by decide +kernel
theorem d_Md_chunkFault_57 : decode b_Md_chunkFault 57 = .ok (.bipush 16, 2) := by decide +kernel
theorem d_Md_chunkFault_59 : decode b_Md_chunkFault 59 = .ok (.if_icmp .lt 5, 3) := by decide +kernel
theorem d_Md_chunkFault_62 : decode b_Md_chunkFault 62 = .ok (.iconst 3, 1) := by decide +kernel
theorem d_Md_chunkFault_63 : decode b_Md_chunkFault 63 = .ok (.ireturn, 1) := by decide +kernel
theorem d_Md_chunkFault_64 : decode b_Md_chunkFault 64 = .ok (.aload_n 0, 1) := by decide +kernel
theorem d_Md_chunkFault_65 : decode b_Md_chunkFault 65 = .ok (.iload_n 1, 1) := by decide +kernel
theorem d_Md_chunkFault_66 : decode b_Md_chunkFault 66 = .ok (.iconst 1, 1) := by decide +kernel
theorem d_Md_chunkFault_67 : decode b_Md_chunkFault 67 = .ok (.invokevirtual 168, 3) := by decide +kernel
theorem d_Md_chunkFault_70 : decode b_Md_chunkFault 70 = .ok (.istore 4, 2) := by decide +kernel
theorem d_Md_chunkFault_72 : decode b_Md_chunkFault 72 = .ok (.iload_n 2, 1) := by decide +kernel
theorem d_Md_chunkFault_73 : decode b_Md_chunkFault 73 = .ok (.iconst 1, 1) := by decide +kernel
theorem d_Md_chunkFault_74 : decode b_Md_chunkFault 74 = .ok (.if_icmp .ne 63, 3) := by decide +kernel
theorem d_Md_chunkFault_77 : decode b_Md_chunkFault 77 = .ok (.iload 4, 2) := by decide +kernel
theorem d_Md_chunkFault_79 : decode b_Md_chunkFault 79 = .ok (.bipush 8, 2) := by decide +kernel
theorem d_Md_chunkFault_81 : decode b_Md_chunkFault 81 = .ok (.if_icmp .eq 50, 3) := by decide +kernel
theorem d_Md_chunkFault_84 : decode b_Md_chunkFault 84 = .ok (.iload_n 3, 1) := by decide +kernel
theorem d_Md_chunkFault_85 : decode b_Md_chunkFault 85 = .ok (.iconst 2, 1) := by decide +kernel
theorem d_Md_chunkFault_86 : decode b_Md_chunkFault 86 = .ok (.if_icmp .lt 45, 3) := by decide +kernel
theorem d_Md_chunkFault_89 : decode b_Md_chunkFault 89 = .ok (.aload_n 0, 1) := by decide +kernel
theorem d_Md_chunkFault_90 : decode b_Md_chunkFault 90 = .ok (.getfield 32, 3) := by decide +kernel
theorem d_Md_chunkFault_93 : decode b_Md_chunkFault 93 = .ok (.iload_n 1, 1) := by decide +kernel
theorem d_Md_chunkFault_94 : decode b_Md_chunkFault 94 = .ok (.iconst 3, 1) := by decide +kernel
theorem d_Md_chunkFault_95 : decode b_Md_chunkFault 95 = .ok (.iadd, 1) := by decide +kernel
theorem d_Md_chunkFault_96 : decode b_Md_chunkFault 96 = .ok (.iaload, 1) := by decide +kernel
theorem d_Md_chunkFault_97 : decode b_Md_chunkFault 97 = .ok (.iload 4, 2) := by decide +kernel
theorem d_Md_chunkFault_99 : decode b_Md_chunkFault 99 = .ok (.if_icmp .gt 32, 3) := by decide +kernel
theorem d_Md_chunkFault_102 : decode b_Md_chunkFault 102 = .ok (.aload_n 0, 1) := by decide +kernel
theorem d_Md_chunkFault_103 : decode b_Md_chunkFault 103 = .ok (.getfield 32, 3) := by decide +kernel
theorem d_Md_chunkFault_106 : decode b_Md_chunkFault 106 = .ok (.iload_n 1, 1) := by decide +kernel
theorem d_Md_chunkFault_107 : decode b_Md_chunkFault 107 = .ok (.iconst 4, 1) := by decide +kernel
theorem d_Md_chunkFault_108 : decode b_Md_chunkFault 108 = .ok (.iadd, 1) := by decide +kernel
theorem d_Md_chunkFault_109 : decode b_Md_chunkFault 109 = .ok (.iaload, 1) := by decide +kernel
theorem d_Md_chunkFault_110 : decode b_Md_chunkFault 110 = .ok (.bipush 127, 2) := by decide +kernel
theorem d_Md_chunkFault_112 : decode b_Md_chunkFault 112 = .ok (.if_icmp .gt 19, 3) := by decide +kernel
theorem d_Md_chunkFault_115 : decode b_Md_chunkFault 115 = .ok (.aload_n 0, 1) := by decide +kernel
theorem d_Md_chunkFault_116 : decode b_Md_chunkFault 116 = .ok (.getfield 32, 3) := by decide +kernel
theorem d_Md_chunkFault_119 : decode b_Md_chunkFault 119 = .ok (.iload_n 1, 1) := by decide +kernel
theorem d_Md_chunkFault_120 : decode b_Md_chunkFault 120 = .ok (.iconst 4, 1) := by decide +kernel
theorem d_Md_chunkFault_121 : decode b_Md_chunkFault 121 = .ok (.iadd, 1) := by decide +kernel
theorem d_Md_chunkFault_122 : decode b_Md_chunkFault 122 = .ok (.iaload, 1) := by decide +kernel
theorem d_Md_chunkFault_123 : decode b_Md_chunkFault 123 = .ok (.bipush 16, 2) := by decide +kernel
theorem d_Md_chunkFault_125 : decode b_Md_chunkFault 125 = .ok (.irem, 1) := by decide +kernel
theorem d_Md_chunkFault_126 : decode b_Md_chunkFault 126 = .ok (.bipush 7, 2) := by decide +kernel
theorem d_Md_chunkFault_128 : decode b_Md_chunkFault 128 = .ok (.if_icmp .le 7, 3) := by decide +kernel
theorem d_Md_chunkFault_131 : decode b_Md_chunkFault 131 = .ok (.iconst 4, 1) := by decide +kernel
theorem d_Md_chunkFault_132 : decode b_Md_chunkFault 132 = .ok (.goto 4, 3) := by decide +kernel
theorem d_Md_chunkFault_135 : decode b_Md_chunkFault 135 = .ok (.iconst 0, 1) := by decide +kernel
theorem d_Md_chunkFault_136 : decode b_Md_chunkFault 136 = .ok (.ireturn, 1) := by decide +kernel
theorem d_Md_chunkFault_137 : decode b_Md_chunkFault 137 = .ok (.iload_n 2, 1) := by decide +kernel
theorem d_Md_chunkFault_138 : decode b_Md_chunkFault 138 = .ok (.iconst 2, 1) := by decide +kernel
theorem d_Md_chunkFault_139 : decode b_Md_chunkFault 139 = .ok (.if_icmp .le 36, 3) := by decide +kernel
theorem d_Md_chunkFault_142 : decode b_Md_chunkFault 142 = .ok (.aload_n 0, 1) := by decide +kernel
theorem d_Md_chunkFault_143 : decode b_Md_chunkFault 143 = .ok (.iload_n 1, 1) := by decide +kernel
theorem d_Md_chunkFault_144 : decode b_Md_chunkFault 144 = .ok (.iload_n 2, 1) := by decide +kernel
theorem d_Md_chunkFault_145 : decode b_Md_chunkFault 145 = .ok (.invokevirtual 168, 3) := by decide +kernel
theorem d_Md_chunkFault_148 : decode b_Md_chunkFault 148 = .ok (.ifCond .gt 20, 3) := by decide +kernel
theorem d_Md_chunkFault_151 : decode b_Md_chunkFault 151 = .ok (.iload_n 3, 1) := by decide +kernel
theorem d_Md_chunkFault_152 : decode b_Md_chunkFault 152 = .ok (.ifCond .eq 16, 3) := by decide +kernel
theorem d_Md_chunkFault_155 : decode b_Md_chunkFault 155 = .ok (.aload_n 0, 1) := by decide +kernel
theorem d_Md_chunkFault_156 : decode b_Md_chunkFault 156 = .ok (.getfield 32, 3) := by decide +kernel
theorem d_Md_chunkFault_159 : decode b_Md_chunkFault 159 = .ok (.iload_n 1, 1) := by decide +kernel
theorem d_Md_chunkFault_160 : decode b_Md_chunkFault 160 = .ok (.iconst 3, 1) := by decide +kernel
theorem d_Md_chunkFault_161 : decode b_Md_chunkFault 161 = .ok (.iadd, 1) := by decide +kernel
theorem d_Md_chunkFault_162 : decode b_Md_chunkFault 162 = .ok (.iaload, 1) := by decide +kernel
theorem d_Md_chunkFault_163 : decode b_Md_chunkFault 163 = .ok (.bipush 10, 2) := by decide +kernel
theorem d_Md_chunkFault_165 : decode b_Md_chunkFault 165 = .ok (.if_icmp .le 8, 3) := by decide +kernel
theorem d_Md_chunkFault_168 : decode b_Md_chunkFault 168 = .ok (.bipush 6, 2) := by decide +kernel
theorem d_Md_chunkFault_170 : decode b_Md_chunkFault 170 = .ok (.goto 4, 3) := by decide +kernel
theorem d_Md_chunkFault_173 : decode b_Md_chunkFault 173 = .ok (.iconst 0, 1) := by decide +kernel
theorem d_Md_chunkFault_174 : decode b_Md_chunkFault 174 = .ok (.ireturn, 1) := by decide +kernel
theorem d_Md_chunkFault_175 : decode b_Md_chunkFault 175 = .ok (.iload_n 3, 1) := by decide +kernel
theorem d_Md_chunkFault_176 : decode b_Md_chunkFault 176 = .ok (.iconst 2, 1) := by decide +kernel
theorem d_Md_chunkFault_177 : decode b_Md_chunkFault 177 = .ok (.irem, 1) := by decide +kernel
theorem d_Md_chunkFault_178 : decode b_Md_chunkFault 178 = .ok (.iconst 1, 1) := by decide +kernel
theorem d_Md_chunkFault_179 : decode b_Md_chunkFault 179 = .ok (.if_icmp .eq 17, 3) := by decide +kernel
theorem d_Md_chunkFault_182 : decode b_Md_chunkFault 182 = .ok (.aload_n 0, 1) := by decide +kernel
theorem d_Md_chunkFault_183 : decode b_Md_chunkFault 183 = .ok (.iload_n 1, 1) := by decide +kernel
theorem d_Md_chunkFault_184 : decode b_Md_chunkFault 184 = .ok (.invokevirtual 171, 3) := by decide +kernel
theorem d_Md_chunkFault_187 : decode b_Md_chunkFault 187 = .ok (.iload_n 3, 1) := by decide +kernel
theorem d_Md_chunkFault_188 : decode b_Md_chunkFault 188 = .ok (.iconst 2, 1) := by decide +kernel
theorem d_Md_chunkFault_189 : decode b_Md_chunkFault 189 = .ok (.idiv, 1) := by decide +kernel
theorem d_Md_chunkFault_190 : decode b_Md_chunkFault 190 = .ok (.iadd, 1) := by decide +kernel
theorem d_Md_chunkFault_191 : decode b_Md_chunkFault 191 = .ok (.bipush 20, 2) := by decide +kernel
theorem d_Md_chunkFault_193 : decode b_Md_chunkFault 193 = .ok (.if_icmp .le 5, 3) := by decide +kernel
theorem d_Md_chunkFault_196 : decode b_Md_chunkFault 196 = .ok (.iconst 5, 1) := by decide +kernel
theorem d_Md_chunkFault_197 : decode b_Md_chunkFault 197 = .ok (.ireturn, 1) := by decide +kernel
theorem d_Md_chunkFault_198 : decode b_Md_chunkFault 198 = .ok (.iconst 0, 1) := by decide +kernel
theorem d_Md_chunkFault_199 : decode b_Md_chunkFault 199 = .ok (.istore 5, 2) := by decide +kernel
theorem d_Md_chunkFault_201 : decode b_Md_chunkFault 201 = .ok (.iload 5, 2) := by decide +kernel
theorem d_Md_chunkFault_203 : decode b_Md_chunkFault 203 = .ok (.iload_n 3, 1) := by decide +kernel
theorem d_Md_chunkFault_204 : decode b_Md_chunkFault 204 = .ok (.if_icmp .ge 27, 3) := by decide +kernel
theorem d_Md_chunkFault_207 : decode b_Md_chunkFault 207 = .ok (.aload_n 0, 1) := by decide +kernel
theorem d_Md_chunkFault_208 : decode b_Md_chunkFault 208 = .ok (.getfield 32, 3) := by decide +kernel
theorem d_Md_chunkFault_211 : decode b_Md_chunkFault 211 = .ok (.iload_n 1, 1) := by decide +kernel
theorem d_Md_chunkFault_212 : decode b_Md_chunkFault 212 = .ok (.iconst 3, 1) := by decide +kernel
theorem d_Md_chunkFault_213 : decode b_Md_chunkFault 213 = .ok (.iadd, 1) := by decide +kernel
theorem d_Md_chunkFault_214 : decode b_Md_chunkFault 214 = .ok (.iload 5, 2) := by decide +kernel
theorem d_Md_chunkFault_216 : decode b_Md_chunkFault 216 = .ok (.iadd, 1) := by decide +kernel
theorem d_Md_chunkFault_217 : decode b_Md_chunkFault 217 = .ok (.iaload, 1) := by decide +kernel
theorem d_Md_chunkFault_218 : decode b_Md_chunkFault 218 = .ok (.iload 4, 2) := by decide +kernel
theorem d_Md_chunkFault_220 : decode b_Md_chunkFault 220 = .ok (.if_icmp .lt 5, 3) := by decide +kernel
theorem d_Md_chunkFault_223 : decode b_Md_chunkFault 223 = .ok (.iconst 5, 1) := by decide +kernel
theorem d_Md_chunkFault_224 : decode b_Md_chunkFault 224 = .ok (.ireturn, 1) := by decide +kernel
theorem d_Md_chunkFault_225 : decode b_Md_chunkFault 225 = .ok (.iinc 5 2, 3) := by decide +kernel
theorem d_Md_chunkFault_228 : decode b_Md_chunkFault 228 = .ok (.goto (-27), 3) := by decide +kernel
theorem d_Md_chunkFault_231 : decode b_Md_chunkFault 231 = .ok (.iconst 0, 1) := by decide +kernel
theorem d_Md_chunkFault_232 : decode b_Md_chunkFault 232 = .ok (.ireturn, 1) := by decide +kernel
theorem d_Md_fault_0 : decode b_Md_fault 0 = .ok (.aload_n 0, 1) := by decide +kernel
theorem d_Md_fault_1 : decode b_Md_fault 1 = .ok (.getfield 120, 3) := by decide +kernel
theorem d_Md_fault_4 : decode b_Md_fault 4 = .ok (.iconst 2, 1) := by decide +kernel
theorem d_Md_fault_5 : decode b_Md_fault 5 = .ok (.if_icmp .lt 25, 3) := by decide +kernel
theorem d_Md_fault_8 : decode b_Md_fault 8 = .ok (.aload_n 0, 1) := by decide +kernel
theorem d_Md_fault_9 : decode b_Md_fault 9 = .ok (.getfield 32, 3) := by decide +kernel
theorem d_Md_fault_12 : decode b_Md_fault 12 = .ok (.iconst 0, 1) := by decide +kernel
theorem d_Md_fault_13 : decode b_Md_fault 13 = .ok (.iaload, 1) := by decide +kernel
theorem d_Md_fault_14 : decode b_Md_fault 14 = .ok (.bipush 80, 2) := by decide +kernel
theorem d_Md_fault_16 : decode b_Md_fault 16 = .ok (.if_icmp .ne 14, 3) := by decide +kernel
theorem d_Md_fault_19 : decode b_Md_fault 19 = .ok (.aload_n 0, 1) := by decide +kernel
theorem d_Md_fault_20 : decode b_Md_fault 20 = .ok (.getfield 32, 3) := by decide +kernel
theorem d_Md_fault_23 : decode b_Md_fault 23 = .ok (.iconst 1, 1) := by decide +kernel
theorem d_Md_fault_24 : decode b_Md_fault 24 = .ok (.iaload, 1) := by decide +kernel
theorem d_Md_fault_25 : decode b_Md_fault 25 = .ok (.bipush 71, 2) := by decide +kernel
theorem d_Md_fault_27 : decode b_Md_fault 27 = .ok (.if_icmp .eq 5, 3) := by decide +kernel
theorem d_Md_fault_30 : decode b_Md_fault 30 = .ok (.iconst 1, 1) := by decide +kernel
theorem d_Md_fault_31 : decode b_Md_fault 31 = .ok (.ireturn, 1) := by decide +kernel
theorem d_Md_fault_32 : decode b_Md_fault 32 = .ok (.iconst 2, 1) := by decide +kernel
theorem d_Md_fault_33 : decode b_Md_fault 33 = .ok (.istore_n 1, 1) := by decide +kernel
theorem d_Md_fault_34 : decode b_Md_fault 34 = .ok (.iload_n 1, 1) := by decide +kernel
theorem d_Md_fault_35 : decode b_Md_fault 35 = .ok (.aload_n 0, 1) := by decide +kernel
theorem d_Md_fault_36 : decode b_Md_fault 36 = .ok (.getfield 120, 3) := by decide +kernel
theorem d_Md_fault_39 : decode b_Md_fault 39 = .ok (.if_icmp .ge 28, 3) := by decide +kernel
theorem d_Md_fault_42 : decode b_Md_fault 42 = .ok (.aload_n 0, 1) := by decide +kernel
theorem d_Md_fault_43 : decode b_Md_fault 43 = .ok (.iload_n 1, 1) := by decide +kernel
theorem d_Md_fault_44 : decode b_Md_fault 44 = .ok (.invokevirtual 174, 3) := by decide +kernel
theorem d_Md_fault_47 : decode b_Md_fault 47 = .ok (.istore_n 2, 1) := by decide +kernel
theorem d_Md_fault_48 : decode b_Md_fault 48 = .ok (.iload_n 2, 1) := by decide +kernel
theorem d_Md_fault_49 : decode b_Md_fault 49 = .ok (.ifCond .le 5, 3) := by decide +kernel
theorem d_Md_fault_52 : decode b_Md_fault 52 = .ok (.iload_n 2, 1) := by decide +kernel
theorem d_Md_fault_53 : decode b_Md_fault 53 = .ok (.ireturn, 1) := by decide +kernel
theorem d_Md_fault_54 : decode b_Md_fault 54 = .ok (.iload_n 1, 1) := by decide +kernel
theorem d_Md_fault_55 : decode b_Md_fault 55 = .ok (.iconst 3, 1) := by decide +kernel
theorem d_Md_fault_56 : decode b_Md_fault 56 = .ok (.aload_n 0, 1) := by decide +kernel
theorem d_Md_fault_57 : decode b_Md_fault 57 = .ok (.iload_n 1, 1) := by decide +kernel
theorem d_Md_fault_58 : decode b_Md_fault 58 = .ok (.invokevirtual 165, 3) := by decide +kernel
theorem d_Md_fault_61 : decode b_Md_fault 61 = .ok (.iadd, 1) := by decide +kernel
theorem d_Md_fault_62 : decode b_Md_fault 62 = .ok (.iadd, 1) := by decide +kernel
theorem d_Md_fault_63 : decode b_Md_fault 63 = .ok (.istore_n 1, 1) := by decide +kernel
theorem d_Md_fault_64 : decode b_Md_fault 64 = .ok (.goto (-30), 3) := by decide +kernel
theorem d_Md_fault_67 : decode b_Md_fault 67 = .ok (.iconst 0, 1) := by decide +kernel
theorem d_Md_fault_68 : decode b_Md_fault 68 = .ok (.ireturn, 1) := by decide +kernel
theorem d_Md_decode_0 : decode b_Md_decode 0 = .ok (.aload_n 0, 1) := by decide +kernel
theorem d_Md_decode_1 : decode b_Md_decode 1 = .ok (.invokevirtual 177, 3) := by decide +kernel
theorem d_Md_decode_4 : decode b_Md_decode 4 = .ok (.istore_n 1, 1) := by decide +kernel
theorem d_Md_decode_5 : decode b_Md_decode 5 = .ok (.iload_n 1, 1) := by decide +kernel
theorem d_Md_decode_6 : decode b_Md_decode 6 = .ok (.ifCond .le 5, 3) := by decide +kernel
theorem d_Md_decode_9 : decode b_Md_decode 9 = .ok (.iload_n 1, 1) := by decide +kernel
theorem d_Md_decode_10 : decode b_Md_decode 10 = .ok (.ireturn, 1) := by decide +kernel
theorem d_Md_decode_11 : decode b_Md_decode 11 = .ok (.aload_n 0, 1) := by decide +kernel
theorem d_Md_decode_12 : decode b_Md_decode 12 = .ok (.iconst 1, 1) := by decide +kernel
theorem d_Md_decode_13 : decode b_Md_decode 13 = .ok (.putfield 180, 3) := by decide +kernel
theorem d_Md_decode_16 : decode b_Md_decode 16 = .ok (.aload_n 0, 1) := by decide +kernel
theorem d_Md_decode_17 : decode b_Md_decode 17 = .ok (.iconst 0, 1) := by decide +kernel
theorem d_Md_decode_18 : decode b_Md_decode 18 = .ok (.putfield 183, 3) := by decide +kernel
theorem d_Md_decode_21 : decode b_Md_decode 21 = .ok (.aload_n 0, 1) := by decide +kernel
theorem d_Md_decode_22 : decode b_Md_decode 22 = .ok (.iconst 0, 1) := by decide +kernel
theorem d_Md_decode_23 : decode b_Md_decode 23 = .ok (.putfield 186, 3) := by decide +kernel
theorem d_Md_decode_26 : decode b_Md_decode 26 = .ok (.iconst 0, 1) := by decide +kernel
theorem d_Md_decode_27 : decode b_Md_decode 27 = .ok (.istore_n 2, 1) := by decide +kernel
theorem d_Md_decode_28 : decode b_Md_decode 28 = .ok (.iload_n 2, 1) := by decide +kernel
theorem d_Md_decode_29 : decode b_Md_decode 29 = .ok (.sipush 128, 3) := by decide +kernel
theorem d_Md_decode_32 : decode b_Md_decode 32 = .ok (.if_icmp .ge 23, 3) := by decide +kernel
theorem d_Md_decode_35 : decode b_Md_decode 35 = .ok (.aload_n 0, 1) := by decide +kernel
theorem d_Md_decode_36 : decode b_Md_decode 36 = .ok (.getfield 44, 3) := by decide +kernel
theorem d_Md_decode_39 : decode b_Md_decode 39 = .ok (.iload_n 2, 1) := by decide +kernel
theorem d_Md_decode_40 : decode b_Md_decode 40 = .ok (.iconst 0, 1) := by decide +kernel
theorem d_Md_decode_41 : decode b_Md_decode 41 = .ok (.iastore, 1) := by decide +kernel
theorem d_Md_decode_42 : decode b_Md_decode 42 = .ok (.aload_n 0, 1) := by decide +kernel
theorem d_Md_decode_43 : decode b_Md_decode 43 = .ok (.getfield 47, 3) := by decide +kernel
theorem d_Md_decode_46 : decode b_Md_decode 46 = .ok (.iload_n 2, 1) := by decide +kernel
theorem d_Md_decode_47 : decode b_Md_decode 47 = .ok (.iconst 0, 1) := by decide +kernel
theorem d_Md_decode_48 : decode b_Md_decode 48 = .ok (.iastore, 1) := by decide +kernel
theorem d_Md_decode_49 : decode b_Md_decode 49 = .ok (.iinc 2 1, 3) := by decide +kernel
theorem d_Md_decode_52 : decode b_Md_decode 52 = .ok (.goto (-24), 3) := by decide +kernel
theorem d_Md_decode_55 : decode b_Md_decode 55 = .ok (.iconst 2, 1) := by decide +kernel
theorem d_Md_decode_56 : decode b_Md_decode 56 = .ok (.istore_n 2, 1) := by decide +kernel
theorem d_Md_decode_57 : decode b_Md_decode 57 = .ok (.iload_n 2, 1) := by decide +kernel
theorem d_Md_decode_58 : decode b_Md_decode 58 = .ok (.aload_n 0, 1) := by decide +kernel
theorem d_Md_decode_59 : decode b_Md_decode 59 = .ok (.getfield 120, 3) := by decide +kernel
theorem d_Md_decode_62 : decode b_Md_decode 62 = .ok (.if_icmp .ge 65, 3) := by decide +kernel
theorem d_Md_decode_65 : decode b_Md_decode 65 = .ok (.aload_n 0, 1) := by decide +kernel
theorem d_Md_decode_66 : decode b_Md_decode 66 = .ok (.getfield 32, 3) := by decide +kernel
theorem d_Md_decode_69 : decode b_Md_decode 69 = .ok (.iload_n 2, 1) := by decide +kernel
theorem d_Md_decode_70 : decode b_Md_decode 70 = .ok (.iaload, 1) := by decide +kernel
theorem d_Md_decode_71 : decode b_Md_decode 71 = .ok (.iconst 1, 1) := by decide +kernel
theorem d_Md_decode_72 : decode b_Md_decode 72 = .ok (.if_icmp .ne 11, 3) := by decide +kernel
theorem d_Md_decode_75 : decode b_Md_decode 75 = .ok (.aload_n 0, 1) := by decide +kernel
theorem d_Md_decode_76 : decode b_Md_decode 76 = .ok (.iload_n 2, 1) := by decide +kernel
theorem d_Md_decode_77 : decode b_Md_decode 77 = .ok (.invokevirtual 189, 3) := by decide +kernel
theorem d_Md_decode_80 : decode b_Md_decode 80 = .ok (.goto 34, 3) := by decide +kernel
theorem d_Md_decode_83 : decode b_Md_decode 83 = .ok (.aload_n 0, 1) := by decide +kernel
theorem d_Md_decode_84 : decode b_Md_decode 84 = .ok (.getfield 32, 3) := by decide +kernel
theorem d_Md_decode_87 : decode b_Md_decode 87 = .ok (.iload_n 2, 1) := by decide +kernel
theorem d_Md_decode_88 : decode b_Md_decode 88 = .ok (.iaload, 1) := by decide +kernel
theorem d_Md_decode_89 : decode b_Md_decode 89 = .ok (.iconst 2, 1) := by decide +kernel
theorem d_Md_decode_90 : decode b_Md_decode 90 = .ok (.if_icmp .ne 11, 3) := by decide +kernel
theorem d_Md_decode_93 : decode b_Md_decode 93 = .ok (.aload_n 0, 1) := by decide +kernel
theorem d_Md_decode_94 : decode b_Md_decode 94 = .ok (.iload_n 2, 1) := by decide +kernel
theorem d_Md_decode_95 : decode b_Md_decode 95 = .ok (.invokevirtual 192, 3) := by decide +kernel
theorem d_Md_decode_98 : decode b_Md_decode 98 = .ok (.goto 16, 3) := by decide +kernel
theorem d_Md_decode_101 : decode b_Md_decode 101 = .ok (.aload_n 0, 1) := by decide +kernel
theorem d_Md_decode_102 : decode b_Md_decode 102 = .ok (.iload_n 2, 1) := by decide +kernel
theorem d_Md_decode_103 : decode b_Md_decode 103 = .ok (.aload_n 0, 1) := by decide +kernel
theorem d_Md_decode_104 : decode b_Md_decode 104 = .ok (.getfield 32, 3) := by decide +kernel
theorem d_Md_decode_107 : decode b_Md_decode 107 = .ok (.iload_n 2, 1) := by decide +kernel
theorem d_Md_decode_108 : decode b_Md_decode 108 = .ok (.iaload, 1) := by decide +kernel
theorem d_Md_decode_109 : decode b_Md_decode 109 = .ok (.iconst 3, 1) := by decide +kernel
theorem d_Md_decode_110 : decode b_Md_decode 110 = .ok (.isub, 1) := by decide +kernel
theorem d_Md_decode_111 : decode b_Md_decode 111 = .ok (.invokevirtual 195, 3) := by decide +kernel
theorem d_Md_decode_114 : decode b_Md_decode 114 = .ok (.iload_n 2, 1) := by decide +kernel
theorem d_Md_decode_115 : decode b_Md_decode 115 = .ok (.iconst 3, 1) := by decide +kernel
theorem d_Md_decode_116 : decode b_Md_decode 116 = .ok (.aload_n 0, 1) := by decide +kernel
theorem d_Md_decode_117 : decode b_Md_decode 117 = .ok (.iload_n 2, 1) := by decide +kernel
theorem d_Md_decode_118 : decode b_Md_decode 118 = .ok (.invokevirtual 165, 3) := by decide +kernel
theorem d_Md_decode_121 : decode b_Md_decode 121 = .ok (.iadd, 1) := by decide +kernel
theorem d_Md_decode_122 : decode b_Md_decode 122 = .ok (.iadd, 1) := by decide +kernel
theorem d_Md_decode_123 : decode b_Md_decode 123 = .ok (.istore_n 2, 1) := by decide +kernel
theorem d_Md_decode_124 : decode b_Md_decode 124 = .ok (.goto (-67), 3) := by decide +kernel
theorem d_Md_decode_127 : decode b_Md_decode 127 = .ok (.iconst 0, 1) := by decide +kernel
theorem d_Md_decode_128 : decode b_Md_decode 128 = .ok (.ireturn, 1) := by decide +kernel
theorem d_Md_takeShape_0 : decode b_Md_takeShape 0 = .ok (.aload_n 0, 1) := by decide +kernel
theorem d_Md_takeShape_1 : decode b_Md_takeShape 1 = .ok (.getfield 32, 3) := by decide +kernel
theorem d_Md_takeShape_4 : decode b_Md_takeShape 4 = .ok (.iload_n 1, 1) := by decide +kernel
theorem d_Md_takeShape_5 : decode b_Md_takeShape 5 = .ok (.iconst 3, 1) := by decide +kernel
theorem d_Md_takeShape_6 : decode b_Md_takeShape 6 = .ok (.iadd, 1) := by decide +kernel
theorem d_Md_takeShape_7 : decode b_Md_takeShape 7 = .ok (.iaload, 1) := by decide +kernel
theorem d_Md_takeShape_8 : decode b_Md_takeShape 8 = .ok (.iconst 1, 1) := by decide +kernel
theorem d_Md_takeShape_9 : decode b_Md_takeShape 9 = .ok (.isub, 1) := by decide +kernel
theorem d_Md_takeShape_10 : decode b_Md_takeShape 10 = .ok (.istore_n 2, 1) := by decide +kernel
theorem d_Md_takeShape_11 : decode b_Md_takeShape 11 = .ok (.aload_n 0, 1) := by decide +kernel
theorem d_Md_takeShape_12 : decode b_Md_takeShape 12 = .ok (.getfield 32, 3) := by decide +kernel
theorem d_Md_takeShape_15 : decode b_Md_takeShape 15 = .ok (.iload_n 1, 1) := by decide +kernel
theorem d_Md_takeShape_16 : decode b_Md_takeShape 16 = .ok (.iconst 4, 1) := by decide +kernel
theorem d_Md_takeShape_17 : decode b_Md_takeShape 17 = .ok (.iadd, 1) := by decide +kernel
theorem d_Md_takeShape_18 : decode b_Md_takeShape 18 = .ok (.iaload, 1) := by decide +kernel
theorem d_Md_takeShape_19 : decode b_Md_takeShape 19 = .ok (.bipush 16, 2) := by decide +kernel
theorem d_Md_takeShape_21 : decode b_Md_takeShape 21 = .ok (.idiv, 1) := by decide +kernel
theorem d_Md_takeShape_22 : decode b_Md_takeShape 22 = .ok (.iconst 1, 1) := by decide +kernel
theorem d_Md_takeShape_23 : decode b_Md_takeShape 23 = .ok (.iadd, 1) := by decide +kernel
theorem d_Md_takeShape_24 : decode b_Md_takeShape 24 = .ok (.istore_n 3, 1) := by decide +kernel
theorem d_Md_takeShape_25 : decode b_Md_takeShape 25 = .ok (.aload_n 0, 1) := by decide +kernel
theorem d_Md_takeShape_26 : decode b_Md_takeShape 26 = .ok (.getfield 32, 3) := by decide +kernel
theorem d_Md_takeShape_29 : decode b_Md_takeShape 29 = .ok (.iload_n 1, 1) := by decide +kernel
theorem d_Md_takeShape_30 : decode b_Md_takeShape 30 = .ok (.iconst 4, 1) := by decide +kernel
theorem d_Md_takeShape_31 : decode b_Md_takeShape 31 = .ok (.iadd, 1) := by decide +kernel
theorem d_Md_takeShape_32 : decode b_Md_takeShape 32 = .ok (.iaload, 1) := by decide +kernel
theorem d_Md_takeShape_33 : decode b_Md_takeShape 33 = .ok (.bipush 16, 2) := by decide +kernel
theorem d_Md_takeShape_35 : decode b_Md_takeShape 35 = .ok (.irem, 1) := by decide +kernel
theorem d_Md_takeShape_36 : decode b_Md_takeShape 36 = .ok (.iconst 1, 1) := by decide +kernel
theorem d_Md_takeShape_37 : decode b_Md_takeShape 37 = .ok (.iadd, 1) := by decide +kernel
theorem d_Md_takeShape_38 : decode b_Md_takeShape 38 = .ok (.istore 4, 2) := by decide +kernel
theorem d_Md_takeShape_40 : decode b_Md_takeShape 40 = .ok (.aload_n 0, 1) := by decide +kernel
theorem d_Md_takeShape_41 : decode b_Md_takeShape 41 = .ok (.iload_n 1, 1) := by decide +kernel
theorem d_Md_takeShape_42 : decode b_Md_takeShape 42 = .ok (.iconst 5, 1) := by decide +kernel
theorem d_Md_takeShape_43 : decode b_Md_takeShape 43 = .ok (.iadd, 1) := by decide +kernel
theorem d_Md_takeShape_44 : decode b_Md_takeShape 44 = .ok (.aload_n 0, 1) := by decide +kernel
theorem d_Md_takeShape_45 : decode b_Md_takeShape 45 = .ok (.iload_n 1, 1) := by decide +kernel
theorem d_Md_takeShape_46 : decode b_Md_takeShape 46 = .ok (.invokevirtual 165, 3) := by decide +kernel
theorem d_Md_takeShape_49 : decode b_Md_takeShape 49 = .ok (.iconst 2, 1) := by decide +kernel
theorem d_Md_takeShape_50 : decode b_Md_takeShape 50 = .ok (.isub, 1) := by decide +kernel
theorem d_Md_takeShape_51 : decode b_Md_takeShape 51 = .ok (.invokevirtual 198, 3) := by decide +kernel
theorem d_Md_takeShape_54 : decode b_Md_takeShape 54 = .ok (.aload_n 0, 1) := by decide +kernel
theorem d_Md_takeShape_55 : decode b_Md_takeShape 55 = .ok (.getfield 35, 3) := by decide +kernel
theorem d_Md_takeShape_58 : decode b_Md_takeShape 58 = .ok (.aload_n 0, 1) := by decide +kernel
theorem d_Md_takeShape_59 : decode b_Md_takeShape 59 = .ok (.getfield 183, 3) := by decide +kernel
theorem d_Md_takeShape_62 : decode b_Md_takeShape 62 = .ok (.aload_n 0, 1) := by decide +kernel
theorem d_Md_takeShape_63 : decode b_Md_takeShape 63 = .ok (.lconst 0, 1) := by decide +kernel
theorem d_Md_takeShape_64 : decode b_Md_takeShape 64 = .ok (.iload_n 3, 1) := by decide +kernel
theorem d_Md_takeShape_65 : decode b_Md_takeShape 65 = .ok (.iload 4, 2) := by decide +kernel
theorem d_Md_takeShape_67 : decode b_Md_takeShape 67 = .ok (.iload_n 2, 1) := by decide +kernel
theorem d_Md_takeShape_68 : decode b_Md_takeShape 68 = .ok (.ifCond .lt 7, 3) := by decide +kernel
theorem d_Md_takeShape_71 : decode b_Md_takeShape 71 = .ok (.iconst 1, 1) := by decide +kernel
theorem d_Md_takeShape_72 : decode b_Md_takeShape 72 = .ok (.goto 4, 3) := by decide +kernel
theorem d_Md_takeShape_75 : decode b_Md_takeShape 75 = .ok (.iconst 0, 1) := by decide +kernel
theorem d_Md_takeShape_76 : decode b_Md_takeShape 76 = .ok (.iload_n 2, 1) := by decide +kernel
theorem d_Md_takeShape_77 : decode b_Md_takeShape 77 = .ok (.ifCond .ge 7, 3) := by decide +kernel
theorem d_Md_takeShape_80 : decode b_Md_takeShape 80 = .ok (.lconst 0, 1) := by decide +kernel
theorem d_Md_takeShape_81 : decode b_Md_takeShape 81 = .ok (.goto 9, 3) := by decide +kernel
theorem d_Md_takeShape_84 : decode b_Md_takeShape 84 = .ok (.aload_n 0, 1) := by decide +kernel
theorem d_Md_takeShape_85 : decode b_Md_takeShape 85 = .ok (.getfield 35, 3) := by decide +kernel
theorem d_Md_takeShape_88 : decode b_Md_takeShape 88 = .ok (.iload_n 2, 1) := by decide +kernel
theorem d_Md_takeShape_89 : decode b_Md_takeShape 89 = .ok (.laload, 1) := by decide +kernel
theorem d_Md_takeShape_90 : decode b_Md_takeShape 90 = .ok (.invokevirtual 143, 3) := by decide +kernel
theorem d_Md_takeShape_93 : decode b_Md_takeShape 93 = .ok (.lastore, 1) := by decide +kernel
theorem d_Md_takeShape_94 : decode b_Md_takeShape 94 = .ok (.aload_n 0, 1) := by decide +kernel
theorem d_Md_takeShape_95 : decode b_Md_takeShape 95 = .ok (.dup, 1) := by decide +kernel
theorem d_Md_takeShape_96 : decode b_Md_takeShape 96 = .ok (.getfield 183, 3) := by decide +kernel
theorem d_Md_takeShape_99 : decode b_Md_takeShape 99 = .ok (.iconst 1, 1) := by decide +kernel
theorem d_Md_takeShape_100 : decode b_Md_takeShape 100 = .ok (.iadd, 1) := by decide +kernel
theorem d_Md_takeShape_101 : decode b_Md_takeShape 101 = .ok (.putfield 183, 3) := by decide +kernel
theorem d_Md_takeShape_104 : decode b_Md_takeShape 104 = .ok (.return_, 1) := by decide +kernel
theorem d_Md_takePlacings_0 : decode b_Md_takePlacings 0 = .ok (.iconst 0, 1) := by decide +kernel
theorem d_Md_takePlacings_1 : decode b_Md_takePlacings 1 = .ok (.istore_n 2, 1) := by decide +kernel
theorem d_Md_takePlacings_2 : decode b_Md_takePlacings 2 = .ok (.iload_n 2, 1) := by decide +kernel
theorem d_Md_takePlacings_3 : decode b_Md_takePlacings 3 = .ok (.aload_n 0, 1) := by decide +kernel
theorem d_Md_takePlacings_4 : decode b_Md_takePlacings 4 = .ok (.iload_n 1, 1) := by decide +kernel
theorem d_Md_takePlacings_5 : decode b_Md_takePlacings 5 = .ok (.invokevirtual 165, 3) := by decide +kernel
theorem d_Md_takePlacings_8 : decode b_Md_takePlacings 8 = .ok (.if_icmp .ge 57, 3) := by decide +kernel
theorem d_Md_takePlacings_11 : decode b_Md_takePlacings 11 = .ok (.aload_n 0, 1) := by decide +kernel
theorem d_Md_takePlacings_12 : decode b_Md_takePlacings 12 = .ok (.getfield 38, 3) := by decide +kernel
theorem d_Md_takePlacings_15 : decode b_Md_takePlacings 15 = .ok (.aload_n 0, 1) := by decide +kernel
theorem d_Md_takePlacings_16 : decode b_Md_takePlacings 16 = .ok (.getfield 186, 3) := by decide +kernel
theorem d_Md_takePlacings_19 : decode b_Md_takePlacings 19 = .ok (.aload_n 0, 1) := by decide +kernel
theorem d_Md_takePlacings_20 : decode b_Md_takePlacings 20 = .ok (.getfield 32, 3) := by decide +kernel
theorem d_Md_takePlacings_23 : decode b_Md_takePlacings 23 = .ok (.iload_n 1, 1) := by decide +kernel
theorem d_Md_takePlacings_24 : decode b_Md_takePlacings 24 = .ok (.iconst 3, 1) := by decide +kernel
theorem d_Md_takePlacings_25 : decode b_Md_takePlacings 25 = .ok (.iadd, 1) := by decide +kernel
theorem d_Md_takePlacings_26 : decode b_Md_takePlacings 26 = .ok (.iload_n 2, 1) := by decide +kernel
theorem d_Md_takePlacings_27 : decode b_Md_takePlacings 27 = .ok (.iadd, 1) := by decide +kernel
theorem d_Md_takePlacings_28 : decode b_Md_takePlacings 28 = .ok (.iaload, 1) := by decide +kernel
theorem d_Md_takePlacings_29 : decode b_Md_takePlacings 29 = .ok (.iastore, 1) := by decide +kernel
theorem d_Md_takePlacings_30 : decode b_Md_takePlacings 30 = .ok (.aload_n 0, 1) := by decide +kernel
theorem d_Md_takePlacings_31 : decode b_Md_takePlacings 31 = .ok (.getfield 41, 3) := by decide +kernel
theorem d_Md_takePlacings_34 : decode b_Md_takePlacings 34 = .ok (.aload_n 0, 1) := by decide +kernel
theorem d_Md_takePlacings_35 : decode b_Md_takePlacings 35 = .ok (.getfield 186, 3) := by decide +kernel
theorem d_Md_takePlacings_38 : decode b_Md_takePlacings 38 = .ok (.aload_n 0, 1) := by decide +kernel
theorem d_Md_takePlacings_39 : decode b_Md_takePlacings 39 = .ok (.getfield 32, 3) := by decide +kernel
theorem d_Md_takePlacings_42 : decode b_Md_takePlacings 42 = .ok (.iload_n 1, 1) := by decide +kernel
theorem d_Md_takePlacings_43 : decode b_Md_takePlacings 43 = .ok (.iconst 4, 1) := by decide +kernel
theorem d_Md_takePlacings_44 : decode b_Md_takePlacings 44 = .ok (.iadd, 1) := by decide +kernel
theorem d_Md_takePlacings_45 : decode b_Md_takePlacings 45 = .ok (.iload_n 2, 1) := by decide +kernel
theorem d_Md_takePlacings_46 : decode b_Md_takePlacings 46 = .ok (.iadd, 1) := by decide +kernel
theorem d_Md_takePlacings_47 : decode b_Md_takePlacings 47 = .ok (.iaload, 1) := by decide +kernel
theorem d_Md_takePlacings_48 : decode b_Md_takePlacings 48 = .ok (.iastore, 1) := by decide +kernel
theorem d_Md_takePlacings_49 : decode b_Md_takePlacings 49 = .ok (.aload_n 0, 1) := by decide +kernel
theorem d_Md_takePlacings_50 : decode b_Md_takePlacings 50 = .ok (.dup, 1) := by decide +kernel
theorem d_Md_takePlacings_51 : decode b_Md_takePlacings 51 = .ok (.getfield 186, 3) := by decide +kernel
theorem d_Md_takePlacings_54 : decode b_Md_takePlacings 54 = .ok (.iconst 1, 1) := by decide +kernel
theorem d_Md_takePlacings_55 : decode b_Md_takePlacings 55 = .ok (.iadd, 1) := by decide +kernel
theorem d_Md_takePlacings_56 : decode b_Md_takePlacings 56 = .ok (.putfield 186, 3) := by decide +kernel
theorem d_Md_takePlacings_59 : decode b_Md_takePlacings 59 = .ok (.iinc 2 2, 3) := by decide +kernel
theorem d_Md_takePlacings_62 : decode b_Md_takePlacings 62 = .ok (.goto (-60), 3) := by decide +kernel
theorem d_Md_takePlacings_65 : decode b_Md_takePlacings 65 = .ok (.return_, 1) := by decide +kernel
theorem d_Md_takeLayer_0 : decode b_Md_takeLayer 0 = .ok (.iload_n 2, 1) := by decide +kernel
theorem d_Md_takeLayer_1 : decode b_Md_takeLayer 1 = .ok (.invokestatic 90, 3) := by decide +kernel
theorem d_Md_takeLayer_4 : decode b_Md_takeLayer 4 = .ok (.istore_n 3, 1) := by decide +kernel
theorem d_Md_takeLayer_5 : decode b_Md_takeLayer 5 = .ok (.aload_n 0, 1) := by decide +kernel
theorem d_Md_takeLayer_6 : decode b_Md_takeLayer 6 = .ok (.getfield 32, 3) := by decide +kernel
theorem d_Md_takeLayer_9 : decode b_Md_takeLayer 9 = .ok (.iload_n 1, 1) := by decide +kernel
theorem d_Md_takeLayer_10 : decode b_Md_takeLayer 10 = .ok (.iconst 3, 1) := by decide +kernel
theorem d_Md_takeLayer_11 : decode b_Md_takeLayer 11 = .ok (.iadd, 1) := by decide +kernel
theorem d_Md_takeLayer_12 : decode b_Md_takeLayer 12 = .ok (.iaload, 1) := by decide +kernel
theorem d_Md_takeLayer_13 : decode b_Md_takeLayer 13 = .ok (.istore 4, 2) := by decide +kernel
theorem d_Md_takeLayer_15 : decode b_Md_takeLayer 15 = .ok (.iconst 0, 1) := by decide +kernel
theorem d_Md_takeLayer_16 : decode b_Md_takeLayer 16 = .ok (.istore 5, 2) := by decide +kernel
theorem d_Md_takeLayer_18 : decode b_Md_takeLayer 18 = .ok (.iload 5, 2) := by decide +kernel
theorem d_Md_takeLayer_20 : decode b_Md_takeLayer 20 = .ok (.bipush 64, 2) := by decide +kernel
theorem d_Md_takeLayer_22 : decode b_Md_takeLayer 22 = .ok (.if_icmp .ge 17, 3) := by decide +kernel
theorem d_Md_takeLayer_25 : decode b_Md_takeLayer 25 = .ok (.aload_n 0, 1) := by decide +kernel
theorem d_Md_takeLayer_26 : decode b_Md_takeLayer 26 = .ok (.getfield 59, 3) := by decide +kernel
theorem d_Md_takeLayer_29 : decode b_Md_takeLayer 29 = .ok (.iload 5, 2) := by decide +kernel
theorem d_Md_takeLayer_31 : decode b_Md_takeLayer 31 = .ok (.iconst 0, 1) := by decide +kernel
theorem d_Md_takeLayer_32 : decode b_Md_takeLayer 32 = .ok (.iastore, 1) := by decide +kernel
theorem d_Md_takeLayer_33 : decode b_Md_takeLayer 33 = .ok (.iinc 5 1, 3) := by decide +kernel
theorem d_Md_takeLayer_36 : decode b_Md_takeLayer 36 = .ok (.goto (-18), 3) := by decide +kernel
theorem d_Md_takeLayer_39 : decode b_Md_takeLayer 39 = .ok (.aload_n 0, 1) := by decide +kernel
theorem d_Md_takeLayer_40 : decode b_Md_takeLayer 40 = .ok (.iload_n 1, 1) := by decide +kernel
theorem d_Md_takeLayer_41 : decode b_Md_takeLayer 41 = .ok (.iconst 4, 1) := by decide +kernel
theorem d_Md_takeLayer_42 : decode b_Md_takeLayer 42 = .ok (.iadd, 1) := by decide +kernel
theorem d_Md_takeLayer_43 : decode b_Md_takeLayer 43 = .ok (.aload_n 0, 1) := by decide +kernel
theorem d_Md_takeLayer_44 : decode b_Md_takeLayer 44 = .ok (.iload_n 1, 1) := by decide +kernel
theorem d_Md_takeLayer_45 : decode b_Md_takeLayer 45 = .ok (.invokevirtual 165, 3) := by decide +kernel
theorem d_Md_takeLayer_48 : decode b_Md_takeLayer 48 = .ok (.iconst 1, 1) := by decide +kernel
theorem d_Md_takeLayer_49 : decode b_Md_takeLayer 49 = .ok (.isub, 1) := by decide +kernel
theorem d_Md_takeLayer_50 : decode b_Md_takeLayer 50 = .ok (.invokevirtual 198, 3) := by decide +kernel
theorem d_Md_takeLayer_53 : decode b_Md_takeLayer 53 = .ok (.aload_n 0, 1) := by decide +kernel
theorem d_Md_takeLayer_54 : decode b_Md_takeLayer 54 = .ok (.iload_n 3, 1) := by decide +kernel
theorem d_Md_takeLayer_55 : decode b_Md_takeLayer 55 = .ok (.iload 4, 2) := by decide +kernel
theorem d_Md_takeLayer_57 : decode b_Md_takeLayer 57 = .ok (.invokevirtual 157, 3) := by decide +kernel
theorem d_Md_takeLayer_60 : decode b_Md_takeLayer 60 = .ok (.iconst 0, 1) := by decide +kernel
theorem d_Md_takeLayer_61 : decode b_Md_takeLayer 61 = .ok (.istore 5, 2) := by decide +kernel
theorem d_Md_takeLayer_63 : decode b_Md_takeLayer 63 = .ok (.iload 5, 2) := by decide +kernel
theorem d_Md_takeLayer_65 : decode b_Md_takeLayer 65 = .ok (.bipush 64, 2) := by decide +kernel
theorem d_Md_takeLayer_67 : decode b_Md_takeLayer 67 = .ok (.if_icmp .ge 68, 3) := by decide +kernel
theorem d_Md_takeLayer_70 : decode b_Md_takeLayer 70 = .ok (.aload_n 0, 1) := by decide +kernel
theorem d_Md_takeLayer_71 : decode b_Md_takeLayer 71 = .ok (.getfield 68, 3) := by decide +kernel
theorem d_Md_takeLayer_74 : decode b_Md_takeLayer 74 = .ok (.iload 5, 2) := by decide +kernel
theorem d_Md_takeLayer_76 : decode b_Md_takeLayer 76 = .ok (.iaload, 1) := by decide +kernel
theorem d_Md_takeLayer_77 : decode b_Md_takeLayer 77 = .ok (.bipush 10, 2) := by decide +kernel
theorem d_Md_takeLayer_79 : decode b_Md_takeLayer 79 = .ok (.iload 4, 2) := by decide +kernel
theorem d_Md_takeLayer_81 : decode b_Md_takeLayer 81 = .ok (.isub, 1) := by decide +kernel
theorem d_Md_takeLayer_82 : decode b_Md_takeLayer 82 = .ok (.ishl, 1) := by decide +kernel
theorem d_Md_takeLayer_83 : decode b_Md_takeLayer 83 = .ok (.istore 6, 2) := by decide +kernel
theorem d_Md_takeLayer_85 : decode b_Md_takeLayer 85 = .ok (.aload_n 0, 1) := by decide +kernel
theorem d_Md_takeLayer_86 : decode b_Md_takeLayer 86 = .ok (.getfield 59, 3) := by decide +kernel
theorem d_Md_takeLayer_89 : decode b_Md_takeLayer 89 = .ok (.iload 5, 2) := by decide +kernel
theorem d_Md_takeLayer_91 : decode b_Md_takeLayer 91 = .ok (.aload_n 0, 1) := by decide +kernel
theorem d_Md_takeLayer_92 : decode b_Md_takeLayer 92 = .ok (.getfield 71, 3) := by decide +kernel
theorem d_Md_takeLayer_95 : decode b_Md_takeLayer 95 = .ok (.iload 5, 2) := by decide +kernel
theorem d_Md_takeLayer_97 : decode b_Md_takeLayer 97 = .ok (.baload, 1) := by decide +kernel
theorem d_Md_takeLayer_98 : decode b_Md_takeLayer 98 = .ok (.ifCond .eq 9, 3) := by decide +kernel
theorem d_Md_takeLayer_101 : decode b_Md_takeLayer 101 = .ok (.iload 6, 2) := by decide +kernel
theorem d_Md_takeLayer_103 : decode b_Md_takeLayer 103 = .ok (.ineg, 1) := by decide +kernel
theorem d_Md_takeLayer_104 : decode b_Md_takeLayer 104 = .ok (.goto 5, 3) := by decide +kernel
theorem d_Md_takeLayer_107 : decode b_Md_takeLayer 107 = .ok (.iload 6, 2) := by decide +kernel
theorem d_Md_takeLayer_109 : decode b_Md_takeLayer 109 = .ok (.iastore, 1) := by decide +kernel
theorem d_Md_takeLayer_110 : decode b_Md_takeLayer 110 = .ok (.aload_n 0, 1) := by decide +kernel
theorem d_Md_takeLayer_111 : decode b_Md_takeLayer 111 = .ok (.getfield 44, 3) := by decide +kernel
theorem d_Md_takeLayer_114 : decode b_Md_takeLayer 114 = .ok (.bipush 64, 2) := by decide +kernel
theorem d_Md_takeLayer_116 : decode b_Md_takeLayer 116 = .ok (.iload_n 2, 1) := by decide +kernel
theorem d_Md_takeLayer_117 : decode b_Md_takeLayer 117 = .ok (.imul, 1) := by decide +kernel
theorem d_Md_takeLayer_118 : decode b_Md_takeLayer 118 = .ok (.iload 5, 2) := by decide +kernel
theorem d_Md_takeLayer_120 : decode b_Md_takeLayer 120 = .ok (.iadd, 1) := by decide +kernel
theorem d_Md_takeLayer_121 : decode b_Md_takeLayer 121 = .ok (.aload_n 0, 1) := by decide +kernel
theorem d_Md_takeLayer_122 : decode b_Md_takeLayer 122 = .ok (.getfield 59, 3) := by decide +kernel
theorem d_Md_takeLayer_125 : decode b_Md_takeLayer 125 = .ok (.iload 5, 2) := by decide +kernel
theorem d_Md_takeLayer_127 : decode b_Md_takeLayer 127 = .ok (.iaload, 1) := by decide +kernel
theorem d_Md_takeLayer_128 : decode b_Md_takeLayer 128 = .ok (.iastore, 1) := by decide +kernel
theorem d_Md_takeLayer_129 : decode b_Md_takeLayer 129 = .ok (.iinc 5 1, 3) := by decide +kernel
theorem d_Md_takeLayer_132 : decode b_Md_takeLayer 132 = .ok (.goto (-69), 3) := by decide +kernel
theorem d_Md_takeLayer_135 : decode b_Md_takeLayer 135 = .ok (.iconst 2, 1) := by decide +kernel
theorem d_Md_takeLayer_136 : decode b_Md_takeLayer 136 = .ok (.istore 5, 2) := by decide +kernel
theorem d_Md_takeLayer_138 : decode b_Md_takeLayer 138 = .ok (.iload 5, 2) := by decide +kernel
theorem d_Md_takeLayer_140 : decode b_Md_takeLayer 140 = .ok (.iload_n 3, 1) := by decide +kernel
theorem d_Md_takeLayer_141 : decode b_Md_takeLayer 141 = .ok (.if_icmp .gt 28, 3) := by decide +kernel
theorem d_Md_takeLayer_144 : decode b_Md_takeLayer 144 = .ok (.aload_n 0, 1) := by decide +kernel
theorem d_Md_takeLayer_145 : decode b_Md_takeLayer 145 = .ok (.iload 5, 2) := by decide +kernel
theorem d_Md_takeLayer_147 : decode b_Md_takeLayer 147 = .ok (.iconst 0, 1) := by decide +kernel
theorem d_Md_takeLayer_148 : decode b_Md_takeLayer 148 = .ok (.iconst 0, 1) := by decide +kernel
theorem d_Md_takeLayer_149 : decode b_Md_takeLayer 149 = .ok (.invokevirtual 153, 3) := by decide +kernel
theorem d_Md_takeLayer_152 : decode b_Md_takeLayer 152 = .ok (.aload_n 0, 1) := by decide +kernel
theorem d_Md_takeLayer_153 : decode b_Md_takeLayer 153 = .ok (.iload 5, 2) := by decide +kernel
theorem d_Md_takeLayer_155 : decode b_Md_takeLayer 155 = .ok (.iconst 1, 1) := by decide +kernel
theorem d_Md_takeLayer_156 : decode b_Md_takeLayer 156 = .ok (.iconst 0, 1) := by decide +kernel
theorem d_Md_takeLayer_157 : decode b_Md_takeLayer 157 = .ok (.invokevirtual 153, 3) := by decide +kernel
theorem d_Md_takeLayer_160 : decode b_Md_takeLayer 160 = .ok (.iload 5, 2) := by decide +kernel
theorem d_Md_takeLayer_162 : decode b_Md_takeLayer 162 = .ok (.iconst 2, 1) := by decide +kernel
theorem d_Md_takeLayer_163 : decode b_Md_takeLayer 163 = .ok (.imul, 1) := by decide +kernel
theorem d_Md_takeLayer_164 : decode b_Md_takeLayer 164 = .ok (.istore 5, 2) := by decide +kernel
theorem d_Md_takeLayer_166 : decode b_Md_takeLayer 166 = .ok (.goto (-28), 3) := by decide +kernel
theorem d_Md_takeLayer_169 : decode b_Md_takeLayer 169 = .ok (.iconst 0, 1) := by decide +kernel
theorem d_Md_takeLayer_170 : decode b_Md_takeLayer 170 = .ok (.istore 5, 2) := by decide +kernel
theorem d_Md_takeLayer_172 : decode b_Md_takeLayer 172 = .ok (.iload 5, 2) := by decide +kernel
theorem d_Md_takeLayer_174 : decode b_Md_takeLayer 174 = .ok (.bipush 64, 2) := by decide +kernel
theorem d_Md_takeLayer_176 : decode b_Md_takeLayer 176 = .ok (.if_icmp .ge 28, 3) := by decide +kernel
theorem d_Md_takeLayer_179 : decode b_Md_takeLayer 179 = .ok (.aload_n 0, 1) := by decide +kernel
theorem d_Md_takeLayer_180 : decode b_Md_takeLayer 180 = .ok (.getfield 47, 3) := by decide +kernel
theorem d_Md_takeLayer_183 : decode b_Md_takeLayer 183 = .ok (.bipush 64, 2) := by decide +kernel
theorem d_Md_takeLayer_185 : decode b_Md_takeLayer 185 = .ok (.iload_n 2, 1) := by decide +kernel
theorem d_Md_takeLayer_186 : decode b_Md_takeLayer 186 = .ok (.imul, 1) := by decide +kernel
theorem d_Md_takeLayer_187 : decode b_Md_takeLayer 187 = .ok (.iload 5, 2) := by decide +kernel
theorem d_Md_takeLayer_189 : decode b_Md_takeLayer 189 = .ok (.iadd, 1) := by decide +kernel
theorem d_Md_takeLayer_190 : decode b_Md_takeLayer 190 = .ok (.aload_n 0, 1) := by decide +kernel
theorem d_Md_takeLayer_191 : decode b_Md_takeLayer 191 = .ok (.getfield 59, 3) := by decide +kernel
theorem d_Md_takeLayer_194 : decode b_Md_takeLayer 194 = .ok (.iload 5, 2) := by decide +kernel
theorem d_Md_takeLayer_196 : decode b_Md_takeLayer 196 = .ok (.iaload, 1) := by decide +kernel
theorem d_Md_takeLayer_197 : decode b_Md_takeLayer 197 = .ok (.iastore, 1) := by decide +kernel
theorem d_Md_takeLayer_198 : decode b_Md_takeLayer 198 = .ok (.iinc 5 1, 3) := by decide +kernel
theorem d_Md_takeLayer_201 : decode b_Md_takeLayer 201 = .ok (.goto (-29), 3) := by decide +kernel
theorem d_Md_takeLayer_204 : decode b_Md_takeLayer 204 = .ok (.return_, 1) := by decide +kernel
theorem d_Md_inked_0 : decode b_Md_inked 0 = .ok (.iconst 0, 1) := by decide +kernel
theorem d_Md_inked_1 : decode b_Md_inked 1 = .ok (.istore_n 3, 1) := by decide +kernel
theorem d_Md_inked_2 : decode b_Md_inked 2 = .ok (.iconst 0, 1) := by decide +kernel
theorem d_Md_inked_3 : decode b_Md_inked 3 = .ok (.istore 4, 2) := by decide +kernel
theorem d_Md_inked_5 : decode b_Md_inked 5 = .ok (.iload 4, 2) := by decide +kernel
theorem d_Md_inked_7 : decode b_Md_inked 7 = .ok (.aload_n 0, 1) := by decide +kernel
theorem d_Md_inked_8 : decode b_Md_inked 8 = .ok (.getfield 186, 3) := by decide +kernel
theorem d_Md_inked_11 : decode b_Md_inked 11 = .ok (.if_icmp .ge 95, 3) := by decide +kernel
theorem d_Md_inked_14 : decode b_Md_inked 14 = .ok (.aload_n 0, 1) := by decide +kernel
theorem d_Md_inked_15 : decode b_Md_inked 15 = .ok (.getfield 180, 3) := by decide +kernel
theorem d_Md_inked_18 : decode b_Md_inked 18 = .ok (.ifCond .eq 88, 3) := by decide +kernel
theorem d_Md_inked_21 : decode b_Md_inked 21 = .ok (.iload_n 1, 1) := by decide +kernel
theorem d_Md_inked_22 : decode b_Md_inked 22 = .ok (.bipush 15, 2) := by decide +kernel
theorem d_Md_inked_24 : decode b_Md_inked 24 = .ok (.invokestatic 75, 3) := by decide +kernel
theorem d_Md_inked_27 : decode b_Md_inked 27 = .ok (.ifCond .ne 79, 3) := by decide +kernel
theorem d_Md_inked_30 : decode b_Md_inked 30 = .ok (.iload_n 2, 1) := by decide +kernel
theorem d_Md_inked_31 : decode b_Md_inked 31 = .ok (.bipush 15, 2) := by decide +kernel
theorem d_Md_inked_33 : decode b_Md_inked 33 = .ok (.invokestatic 75, 3) := by decide +kernel
theorem d_Md_inked_36 : decode b_Md_inked 36 = .ok (.ifCond .ne 70, 3) := by decide +kernel
theorem d_Md_inked_39 : decode b_Md_inked 39 = .ok (.iload_n 1, 1) := by decide +kernel
theorem d_Md_inked_40 : decode b_Md_inked 40 = .ok (.aload_n 0, 1) := by decide +kernel
theorem d_Md_inked_41 : decode b_Md_inked 41 = .ok (.getfield 41, 3) := by decide +kernel
theorem d_Md_inked_44 : decode b_Md_inked 44 = .ok (.iload 4, 2) := by decide +kernel
theorem d_Md_inked_46 : decode b_Md_inked 46 = .ok (.iaload, 1) := by decide +kernel
theorem d_Md_inked_47 : decode b_Md_inked 47 = .ok (.bipush 16, 2) := by decide +kernel
theorem d_Md_inked_49 : decode b_Md_inked 49 = .ok (.idiv, 1) := by decide +kernel
theorem d_Md_inked_50 : decode b_Md_inked 50 = .ok (.isub, 1) := by decide +kernel
theorem d_Md_inked_51 : decode b_Md_inked 51 = .ok (.istore 5, 2) := by decide +kernel
theorem d_Md_inked_53 : decode b_Md_inked 53 = .ok (.iload_n 2, 1) := by decide +kernel
theorem d_Md_inked_54 : decode b_Md_inked 54 = .ok (.aload_n 0, 1) := by decide +kernel
theorem d_Md_inked_55 : decode b_Md_inked 55 = .ok (.getfield 41, 3) := by decide +kernel
theorem d_Md_inked_58 : decode b_Md_inked 58 = .ok (.iload 4, 2) := by decide +kernel
theorem d_Md_inked_60 : decode b_Md_inked 60 = .ok (.iaload, 1) := by decide +kernel
theorem d_Md_inked_61 : decode b_Md_inked 61 = .ok (.bipush 16, 2) := by decide +kernel
theorem d_Md_inked_63 : decode b_Md_inked 63 = .ok (.irem, 1) := by decide +kernel
theorem d_Md_inked_64 : decode b_Md_inked 64 = .ok (.isub, 1) := by decide +kernel
theorem d_Md_inked_65 : decode b_Md_inked 65 = .ok (.istore 6, 2) := by decide +kernel
theorem d_Md_inked_67 : decode b_Md_inked 67 = .ok (.iload_n 3, 1) := by decide +kernel
theorem d_Md_inked_68 : decode b_Md_inked 68 = .ok (.ifCond .ne 26, 3) := by decide +kernel
theorem d_Md_inked_71 : decode b_Md_inked 71 = .ok (.aload_n 0, 1) := by decide +kernel
theorem d_Md_inked_72 : decode b_Md_inked 72 = .ok (.getfield 35, 3) := by decide +kernel
theorem d_Md_inked_75 : decode b_Md_inked 75 = .ok (.aload_n 0, 1) := by decide +kernel
theorem d_Md_inked_76 : decode b_Md_inked 76 = .ok (.getfield 38, 3) := by decide +kernel
theorem d_Md_inked_79 : decode b_Md_inked 79 = .ok (.iload 4, 2) := by decide +kernel
theorem d_Md_inked_81 : decode b_Md_inked 81 = .ok (.iaload, 1) := by decide +kernel
theorem d_Md_inked_82 : decode b_Md_inked 82 = .ok (.laload, 1) := by decide +kernel
theorem d_Md_inked_83 : decode b_Md_inked 83 = .ok (.iload 5, 2) := by decide +kernel
theorem d_Md_inked_85 : decode b_Md_inked 85 = .ok (.iload 6, 2) := by decide +kernel
theorem d_Md_inked_87 : decode b_Md_inked 87 = .ok (.invokestatic 83, 3) := by decide +kernel
theorem d_Md_inked_90 : decode b_Md_inked 90 = .ok (.iconst 1, 1) := by decide +kernel
theorem d_Md_inked_91 : decode b_Md_inked 91 = .ok (.if_icmp .ne 7, 3) := by decide +kernel
theorem d_Md_inked_94 : decode b_Md_inked 94 = .ok (.iconst 1, 1) := by decide +kernel
theorem d_Md_inked_95 : decode b_Md_inked 95 = .ok (.goto 4, 3) := by decide +kernel
theorem d_Md_inked_98 : decode b_Md_inked 98 = .ok (.iconst 0, 1) := by decide +kernel
theorem d_Md_inked_99 : decode b_Md_inked 99 = .ok (.istore_n 3, 1) := by decide +kernel
theorem d_Md_inked_100 : decode b_Md_inked 100 = .ok (.iinc 4 1, 3) := by decide +kernel
theorem d_Md_inked_103 : decode b_Md_inked 103 = .ok (.goto (-98), 3) := by decide +kernel
theorem d_Md_inked_106 : decode b_Md_inked 106 = .ok (.iload_n 3, 1) := by decide +kernel
theorem d_Md_inked_107 : decode b_Md_inked 107 = .ok (.ireturn, 1) := by decide +kernel
theorem d_Md_noCell_0 : decode b_Md_noCell 0 = .ok (.aload_n 0, 1) := by decide +kernel
theorem d_Md_noCell_1 : decode b_Md_noCell 1 = .ok (.getfield 180, 3) := by decide +kernel
theorem d_Md_noCell_4 : decode b_Md_noCell 4 = .ok (.ifCond .eq 37, 3) := by decide +kernel
theorem d_Md_noCell_7 : decode b_Md_noCell 7 = .ok (.iload_n 1, 1) := by decide +kernel
theorem d_Md_noCell_8 : decode b_Md_noCell 8 = .ok (.iconst 1, 1) := by decide +kernel
theorem d_Md_noCell_9 : decode b_Md_noCell 9 = .ok (.invokestatic 75, 3) := by decide +kernel
theorem d_Md_noCell_12 : decode b_Md_noCell 12 = .ok (.ifCond .ne 29, 3) := by decide +kernel
theorem d_Md_noCell_15 : decode b_Md_noCell 15 = .ok (.iload_n 2, 1) := by decide +kernel
theorem d_Md_noCell_16 : decode b_Md_noCell 16 = .ok (.iload_n 1, 1) := by decide +kernel
theorem d_Md_noCell_17 : decode b_Md_noCell 17 = .ok (.invokestatic 90, 3) := by decide +kernel
theorem d_Md_noCell_20 : decode b_Md_noCell 20 = .ok (.iconst 1, 1) := by decide +kernel
theorem d_Md_noCell_21 : decode b_Md_noCell 21 = .ok (.isub, 1) := by decide +kernel
theorem d_Md_noCell_22 : decode b_Md_noCell 22 = .ok (.invokestatic 75, 3) := by decide +kernel
theorem d_Md_noCell_25 : decode b_Md_noCell 25 = .ok (.ifCond .ne 16, 3) := by decide +kernel
theorem d_Md_noCell_28 : decode b_Md_noCell 28 = .ok (.iload_n 3, 1) := by decide +kernel
theorem d_Md_noCell_29 : decode b_Md_noCell 29 = .ok (.iload_n 1, 1) := by decide +kernel
theorem d_Md_noCell_30 : decode b_Md_noCell 30 = .ok (.invokestatic 90, 3) := by decide +kernel
theorem d_Md_noCell_33 : decode b_Md_noCell 33 = .ok (.iconst 1, 1) := by decide +kernel
theorem d_Md_noCell_34 : decode b_Md_noCell 34 = .ok (.isub, 1) := by decide +kernel
theorem d_Md_noCell_35 : decode b_Md_noCell 35 = .ok (.invokestatic 75, 3) := by decide +kernel
theorem d_Md_noCell_38 : decode b_Md_noCell 38 = .ok (.ifCond .eq 7, 3) := by decide +kernel
theorem d_Md_noCell_41 : decode b_Md_noCell 41 = .ok (.iconst 1, 1) := by decide +kernel
theorem d_Md_noCell_42 : decode b_Md_noCell 42 = .ok (.goto 4, 3) := by decide +kernel
theorem d_Md_noCell_45 : decode b_Md_noCell 45 = .ok (.iconst 0, 1) := by decide +kernel
theorem d_Md_noCell_46 : decode b_Md_noCell 46 = .ok (.ireturn, 1) := by decide +kernel
theorem d_Md_cell_0 : decode b_Md_cell 0 = .ok (.aload_n 0, 1) := by decide +kernel
theorem d_Md_cell_1 : decode b_Md_cell 1 = .ok (.iload_n 1, 1) := by decide +kernel
theorem d_Md_cell_2 : decode b_Md_cell 2 = .ok (.iload_n 2, 1) := by decide +kernel
theorem d_Md_cell_3 : decode b_Md_cell 3 = .ok (.iload_n 3, 1) := by decide +kernel
theorem d_Md_cell_4 : decode b_Md_cell 4 = .ok (.invokevirtual 201, 3) := by decide +kernel
theorem d_Md_cell_7 : decode b_Md_cell 7 = .ok (.ifCond .eq 5, 3) := by decide +kernel
theorem d_Md_cell_10 : decode b_Md_cell 10 = .ok (.iconst (-1), 1) := by decide +kernel
theorem d_Md_cell_11 : decode b_Md_cell 11 = .ok (.ireturn, 1) := by decide +kernel
theorem d_Md_cell_12 : decode b_Md_cell 12 = .ok (.aload_n 0, 1) := by decide +kernel
theorem d_Md_cell_13 : decode b_Md_cell 13 = .ok (.getfield 47, 3) := by decide +kernel
theorem d_Md_cell_16 : decode b_Md_cell 16 = .ok (.bipush 64, 2) := by decide +kernel
theorem d_Md_cell_18 : decode b_Md_cell 18 = .ok (.iload_n 1, 1) := by decide +kernel
theorem d_Md_cell_19 : decode b_Md_cell 19 = .ok (.imul, 1) := by decide +kernel
theorem d_Md_cell_20 : decode b_Md_cell 20 = .ok (.bipush 8, 2) := by decide +kernel
theorem d_Md_cell_22 : decode b_Md_cell 22 = .ok (.iload_n 3, 1) := by decide +kernel
theorem d_Md_cell_23 : decode b_Md_cell 23 = .ok (.imul, 1) := by decide +kernel
theorem d_Md_cell_24 : decode b_Md_cell 24 = .ok (.iadd, 1) := by decide +kernel
theorem d_Md_cell_25 : decode b_Md_cell 25 = .ok (.iload_n 2, 1) := by decide +kernel
theorem d_Md_cell_26 : decode b_Md_cell 26 = .ok (.iadd, 1) := by decide +kernel
theorem d_Md_cell_27 : decode b_Md_cell 27 = .ok (.iaload, 1) := by decide +kernel
theorem d_Md_cell_28 : decode b_Md_cell 28 = .ok (.istore 4, 2) := by decide +kernel
theorem d_Md_cell_30 : decode b_Md_cell 30 = .ok (.iload 4, 2) := by decide +kernel
theorem d_Md_cell_32 : decode b_Md_cell 32 = .ok (.ifCond .ge 7, 3) := by decide +kernel
theorem d_Md_cell_35 : decode b_Md_cell 35 = .ok (.iconst 0, 1) := by decide +kernel
theorem d_Md_cell_36 : decode b_Md_cell 36 = .ok (.goto 17, 3) := by decide +kernel
theorem d_Md_cell_39 : decode b_Md_cell 39 = .ok (.iload 4, 2) := by decide +kernel
theorem d_Md_cell_41 : decode b_Md_cell 41 = .ok (.bipush 63, 2) := by decide +kernel
theorem d_Md_cell_43 : decode b_Md_cell 43 = .ok (.if_icmp .le 8, 3) := by decide +kernel
theorem d_Md_cell_46 : decode b_Md_cell 46 = .ok (.bipush 63, 2) := by decide +kernel
theorem d_Md_cell_48 : decode b_Md_cell 48 = .ok (.goto 5, 3) := by decide +kernel
theorem d_Md_cell_51 : decode b_Md_cell 51 = .ok (.iload 4, 2) := by decide +kernel
theorem d_Md_cell_53 : decode b_Md_cell 53 = .ok (.ireturn, 1) := by decide +kernel
theorem d_Md_pixel_0 : decode b_Md_pixel 0 = .ok (.aload_n 0, 1) := by decide +kernel
theorem d_Md_pixel_1 : decode b_Md_pixel 1 = .ok (.getfield 180, 3) := by decide +kernel
theorem d_Md_pixel_4 : decode b_Md_pixel 4 = .ok (.ifCond .eq 21, 3) := by decide +kernel
theorem d_Md_pixel_7 : decode b_Md_pixel 7 = .ok (.iload_n 1, 1) := by decide +kernel
theorem d_Md_pixel_8 : decode b_Md_pixel 8 = .ok (.bipush 15, 2) := by decide +kernel
theorem d_Md_pixel_10 : decode b_Md_pixel 10 = .ok (.invokestatic 75, 3) := by decide +kernel
theorem d_Md_pixel_13 : decode b_Md_pixel 13 = .ok (.ifCond .ne 12, 3) := by decide +kernel
theorem d_Md_pixel_16 : decode b_Md_pixel 16 = .ok (.iload_n 2, 1) := by decide +kernel
theorem d_Md_pixel_17 : decode b_Md_pixel 17 = .ok (.bipush 15, 2) := by decide +kernel
theorem d_Md_pixel_19 : decode b_Md_pixel 19 = .ok (.invokestatic 75, 3) := by decide +kernel
theorem d_Md_pixel_22 : decode b_Md_pixel 22 = .ok (.ifCond .eq 5, 3) := by decide +kernel
theorem d_Md_pixel_25 : decode b_Md_pixel 25 = .ok (.iconst (-1), 1) := by decide +kernel
theorem d_Md_pixel_26 : decode b_Md_pixel 26 = .ok (.ireturn, 1) := by decide +kernel
theorem d_Md_pixel_27 : decode b_Md_pixel 27 = .ok (.aload_n 0, 1) := by decide +kernel
theorem d_Md_pixel_28 : decode b_Md_pixel 28 = .ok (.iload_n 1, 1) := by decide +kernel
theorem d_Md_pixel_29 : decode b_Md_pixel 29 = .ok (.iload_n 2, 1) := by decide +kernel
theorem d_Md_pixel_30 : decode b_Md_pixel 30 = .ok (.invokevirtual 205, 3) := by decide +kernel
theorem d_Md_pixel_33 : decode b_Md_pixel 33 = .ok (.ifCond .eq 17, 3) := by decide +kernel
theorem d_Md_pixel_36 : decode b_Md_pixel 36 = .ok (.aload_n 0, 1) := by decide +kernel
theorem d_Md_pixel_37 : decode b_Md_pixel 37 = .ok (.iconst 1, 1) := by decide +kernel
theorem d_Md_pixel_38 : decode b_Md_pixel 38 = .ok (.iload_n 1, 1) := by decide +kernel
theorem d_Md_pixel_39 : decode b_Md_pixel 39 = .ok (.iconst 4, 1) := by decide +kernel
theorem d_Md_pixel_40 : decode b_Md_pixel 40 = .ok (.idiv, 1) := by decide +kernel
theorem d_Md_pixel_41 : decode b_Md_pixel 41 = .ok (.iload_n 2, 1) := by decide +kernel
theorem d_Md_pixel_42 : decode b_Md_pixel 42 = .ok (.iconst 4, 1) := by decide +kernel
theorem d_Md_pixel_43 : decode b_Md_pixel 43 = .ok (.idiv, 1) := by decide +kernel
theorem d_Md_pixel_44 : decode b_Md_pixel 44 = .ok (.invokevirtual 208, 3) := by decide +kernel
theorem d_Md_pixel_47 : decode b_Md_pixel 47 = .ok (.goto 14, 3) := by decide +kernel
theorem d_Md_pixel_50 : decode b_Md_pixel 50 = .ok (.aload_n 0, 1) := by decide +kernel
theorem d_Md_pixel_51 : decode b_Md_pixel 51 = .ok (.iconst 0, 1) := by decide +kernel
theorem d_Md_pixel_52 : decode b_Md_pixel 52 = .ok (.iload_n 1, 1) := by decide +kernel
theorem d_Md_pixel_53 : decode b_Md_pixel 53 = .ok (.iconst 2, 1) := by decide +kernel
theorem d_Md_pixel_54 : decode b_Md_pixel 54 = .ok (.idiv, 1) := by decide +kernel
theorem d_Md_pixel_55 : decode b_Md_pixel 55 = .ok (.iload_n 2, 1) := by decide +kernel
theorem d_Md_pixel_56 : decode b_Md_pixel 56 = .ok (.iconst 2, 1) := by decide +kernel
theorem d_Md_pixel_57 : decode b_Md_pixel 57 = .ok (.idiv, 1) := by decide +kernel
theorem d_Md_pixel_58 : decode b_Md_pixel 58 = .ok (.invokevirtual 208, 3) := by decide +kernel
theorem d_Md_pixel_61 : decode b_Md_pixel 61 = .ok (.ireturn, 1) := by decide +kernel
theorem d_Md_coefficient_0 : decode b_Md_coefficient 0 = .ok (.aload_n 0, 1) := by decide +kernel
theorem d_Md_coefficient_1 : decode b_Md_coefficient 1 = .ok (.iload_n 1, 1) := by decide +kernel
theorem d_Md_coefficient_2 : decode b_Md_coefficient 2 = .ok (.iload_n 2, 1) := by decide +kernel
theorem d_Md_coefficient_3 : decode b_Md_coefficient 3 = .ok (.iload_n 3, 1) := by decide +kernel
theorem d_Md_coefficient_4 : decode b_Md_coefficient 4 = .ok (.invokevirtual 201, 3) := by decide +kernel
theorem d_Md_coefficient_7 : decode b_Md_coefficient 7 = .ok (.ifCond .eq 7, 3) := by decide +kernel
theorem d_Md_coefficient_10 : decode b_Md_coefficient 10 = .ok (.iconst 0, 1) := by decide +kernel
theorem d_Md_coefficient_11 : decode b_Md_coefficient 11 = .ok (.goto 19, 3) := by decide +kernel
theorem d_Md_coefficient_14 : decode b_Md_coefficient 14 = .ok (.aload_n 0, 1) := by decide +kernel
theorem d_Md_coefficient_15 : decode b_Md_coefficient 15 = .ok (.getfield 44, 3) := by decide +kernel
theorem d_Md_coefficient_18 : decode b_Md_coefficient 18 = .ok (.bipush 64, 2) := by decide +kernel
theorem d_Md_coefficient_20 : decode b_Md_coefficient 20 = .ok (.iload_n 1, 1) := by decide +kernel
theorem d_Md_coefficient_21 : decode b_Md_coefficient 21 = .ok (.imul, 1) := by decide +kernel
theorem d_Md_coefficient_22 : decode b_Md_coefficient 22 = .ok (.bipush 8, 2) := by decide +kernel
theorem d_Md_coefficient_24 : decode b_Md_coefficient 24 = .ok (.iload_n 3, 1) := by decide +kernel
theorem d_Md_coefficient_25 : decode b_Md_coefficient 25 = .ok (.imul, 1) := by decide +kernel
theorem d_Md_coefficient_26 : decode b_Md_coefficient 26 = .ok (.iadd, 1) := by decide +kernel
theorem d_Md_coefficient_27 : decode b_Md_coefficient 27 = .ok (.iload_n 2, 1) := by decide +kernel
theorem d_Md_coefficient_28 : decode b_Md_coefficient 28 = .ok (.iadd, 1) := by decide +kernel
theorem d_Md_coefficient_29 : decode b_Md_coefficient 29 = .ok (.iaload, 1) := by decide +kernel
theorem d_Md_coefficient_30 : decode b_Md_coefficient 30 = .ok (.ireturn, 1) := by decide +kernel
theorem d_Md_shapes_0 : decode b_Md_shapes 0 = .ok (.aload_n 0, 1) := by decide +kernel
theorem d_Md_shapes_1 : decode b_Md_shapes 1 = .ok (.getfield 180, 3) := by decide +kernel
theorem d_Md_shapes_4 : decode b_Md_shapes 4 = .ok (.ifCond .eq 10, 3) := by decide +kernel
theorem d_Md_shapes_7 : decode b_Md_shapes 7 = .ok (.aload_n 0, 1) := by decide +kernel
theorem d_Md_shapes_8 : decode b_Md_shapes 8 = .ok (.getfield 183, 3) := by decide +kernel
theorem d_Md_shapes_11 : decode b_Md_shapes 11 = .ok (.goto 4, 3) := by decide +kernel
theorem d_Md_shapes_14 : decode b_Md_shapes 14 = .ok (.iconst (-1), 1) := by decide +kernel
theorem d_Md_shapes_15 : decode b_Md_shapes 15 = .ok (.ireturn, 1) := by decide +kernel
theorem d_Md_glyph_0 : decode b_Md_glyph 0 = .ok (.aload_n 0, 1) := by decide +kernel
theorem d_Md_glyph_1 : decode b_Md_glyph 1 = .ok (.getfield 180, 3) := by decide +kernel
theorem d_Md_glyph_4 : decode b_Md_glyph 4 = .ok (.ifCond .eq 16, 3) := by decide +kernel
theorem d_Md_glyph_7 : decode b_Md_glyph 7 = .ok (.iload_n 1, 1) := by decide +kernel
theorem d_Md_glyph_8 : decode b_Md_glyph 8 = .ok (.aload_n 0, 1) := by decide +kernel
theorem d_Md_glyph_9 : decode b_Md_glyph 9 = .ok (.getfield 183, 3) := by decide +kernel
theorem d_Md_glyph_12 : decode b_Md_glyph 12 = .ok (.iconst 1, 1) := by decide +kernel
theorem d_Md_glyph_13 : decode b_Md_glyph 13 = .ok (.isub, 1) := by decide +kernel
theorem d_Md_glyph_14 : decode b_Md_glyph 14 = .ok (.invokestatic 75, 3) := by decide +kernel
theorem d_Md_glyph_17 : decode b_Md_glyph 17 = .ok (.ifCond .eq 7, 3) := by decide +kernel
theorem d_Md_glyph_20 : decode b_Md_glyph 20 = .ok (.lconst 0, 1) := by decide +kernel
theorem d_Md_glyph_21 : decode b_Md_glyph 21 = .ok (.goto 9, 3) := by decide +kernel
theorem d_Md_glyph_24 : decode b_Md_glyph 24 = .ok (.aload_n 0, 1) := by decide +kernel
theorem d_Md_glyph_25 : decode b_Md_glyph 25 = .ok (.getfield 35, 3) := by decide +kernel
theorem d_Md_glyph_28 : decode b_Md_glyph 28 = .ok (.iload_n 1, 1) := by decide +kernel
theorem d_Md_glyph_29 : decode b_Md_glyph 29 = .ok (.laload, 1) := by decide +kernel
theorem d_Md_glyph_30 : decode b_Md_glyph 30 = .ok (.lreturn, 1) := by decide +kernel
theorem d_Md_placings_0 : decode b_Md_placings 0 = .ok (.aload_n 0, 1) := by decide +kernel
theorem d_Md_placings_1 : decode b_Md_placings 1 = .ok (.getfield 180, 3) := by decide +kernel
theorem d_Md_placings_4 : decode b_Md_placings 4 = .ok (.ifCond .eq 10, 3) := by decide +kernel
theorem d_Md_placings_7 : decode b_Md_placings 7 = .ok (.aload_n 0, 1) := by decide +kernel
theorem d_Md_placings_8 : decode b_Md_placings 8 = .ok (.getfield 186, 3) := by decide +kernel
theorem d_Md_placings_11 : decode b_Md_placings 11 = .ok (.goto 4, 3) := by decide +kernel
theorem d_Md_placings_14 : decode b_Md_placings 14 = .ok (.iconst (-1), 1) := by decide +kernel
theorem d_Md_placings_15 : decode b_Md_placings 15 = .ok (.ireturn, 1) := by decide +kernel
theorem d_Cr_init_0 : decode b_Cr_init 0 = .ok (.aload_n 0, 1) := by decide +kernel
theorem d_Cr_init_1 : decode b_Cr_init 1 = .ok (.invokespecial 1, 3) := by decide +kernel
theorem d_Cr_init_4 : decode b_Cr_init 4 = .ok (.aload_n 0, 1) := by decide +kernel
theorem d_Cr_init_5 : decode b_Cr_init 5 = .ok (.iconst 0, 1) := by decide +kernel
theorem d_Cr_init_6 : decode b_Cr_init 6 = .ok (.newarray .int, 2) := by decide +kernel
theorem d_Cr_init_8 : decode b_Cr_init 8 = .ok (.putfield 7, 3) := by decide +kernel
theorem d_Cr_init_11 : decode b_Cr_init 11 = .ok (.aload_n 0, 1) := by decide +kernel
theorem d_Cr_init_12 : decode b_Cr_init 12 = .ok (.iconst 0, 1) := by decide +kernel
theorem d_Cr_init_13 : decode b_Cr_init 13 = .ok (.putfield 13, 3) := by decide +kernel
theorem d_Cr_init_16 : decode b_Cr_init 16 = .ok (.aload_n 0, 1) := by decide +kernel
theorem d_Cr_init_17 : decode b_Cr_init 17 = .ok (.iconst 0, 1) := by decide +kernel
theorem d_Cr_init_18 : decode b_Cr_init 18 = .ok (.putfield 17, 3) := by decide +kernel
theorem d_Cr_init_21 : decode b_Cr_init 21 = .ok (.aload_n 0, 1) := by decide +kernel
theorem d_Cr_init_22 : decode b_Cr_init 22 = .ok (.iconst 0, 1) := by decide +kernel
theorem d_Cr_init_23 : decode b_Cr_init 23 = .ok (.putfield 20, 3) := by decide +kernel
theorem d_Cr_init_26 : decode b_Cr_init 26 = .ok (.aload_n 0, 1) := by decide +kernel
theorem d_Cr_init_27 : decode b_Cr_init 27 = .ok (.iconst 0, 1) := by decide +kernel
theorem d_Cr_init_28 : decode b_Cr_init 28 = .ok (.putfield 23, 3) := by decide +kernel
theorem d_Cr_init_31 : decode b_Cr_init 31 = .ok (.return_, 1) := by decide +kernel
theorem d_Cr_begin_0 : decode b_Cr_begin 0 = .ok (.aload_n 0, 1) := by decide +kernel
theorem d_Cr_begin_1 : decode b_Cr_begin 1 = .ok (.invokevirtual 26, 3) := by decide +kernel
theorem d_Cr_begin_4 : decode b_Cr_begin 4 = .ok (.aload_n 0, 1) := by decide +kernel
theorem d_Cr_begin_5 : decode b_Cr_begin 5 = .ok (.aload_n 1, 1) := by decide +kernel
theorem d_Cr_begin_6 : decode b_Cr_begin 6 = .ok (.putfield 7, 3) := by decide +kernel
theorem d_Cr_begin_9 : decode b_Cr_begin 9 = .ok (.aload_n 0, 1) := by decide +kernel
theorem d_Cr_begin_10 : decode b_Cr_begin 10 = .ok (.iload_n 2, 1) := by decide +kernel
theorem d_Cr_begin_11 : decode b_Cr_begin 11 = .ok (.putfield 13, 3) := by decide +kernel
theorem d_Cr_begin_14 : decode b_Cr_begin 14 = .ok (.aload_n 0, 1) := by decide +kernel
theorem d_Cr_begin_15 : decode b_Cr_begin 15 = .ok (.iload_n 3, 1) := by decide +kernel
theorem d_Cr_begin_16 : decode b_Cr_begin 16 = .ok (.aload_n 1, 1) := by decide +kernel
theorem d_Cr_begin_17 : decode b_Cr_begin 17 = .ok (.arraylength, 1) := by decide +kernel
theorem d_Cr_begin_18 : decode b_Cr_begin 18 = .ok (.invokestatic 29, 3) := by decide +kernel
theorem d_Cr_begin_21 : decode b_Cr_begin 21 = .ok (.putfield 17, 3) := by decide +kernel
theorem d_Cr_begin_24 : decode b_Cr_begin 24 = .ok (.aload_n 0, 1) := by decide +kernel
theorem d_Cr_begin_25 : decode b_Cr_begin 25 = .ok (.iconst 0, 1) := by decide +kernel
theorem d_Cr_begin_26 : decode b_Cr_begin 26 = .ok (.putfield 20, 3) := by decide +kernel
theorem d_Cr_begin_29 : decode b_Cr_begin 29 = .ok (.aload_n 0, 1) := by decide +kernel
theorem d_Cr_begin_30 : decode b_Cr_begin 30 = .ok (.iconst 0, 1) := by decide +kernel
theorem d_Cr_begin_31 : decode b_Cr_begin 31 = .ok (.putfield 23, 3) := by decide +kernel
theorem d_Cr_begin_34 : decode b_Cr_begin 34 = .ok (.iconst 0, 1) := by decide +kernel
theorem d_Cr_begin_35 : decode b_Cr_begin 35 = .ok (.istore 4, 2) := by decide +kernel
theorem d_Cr_begin_37 : decode b_Cr_begin 37 = .ok (.iload 4, 2) := by decide +kernel
theorem d_Cr_begin_39 : decode b_Cr_begin 39 = .ok (.bipush 16, 2) := by decide +kernel
theorem d_Cr_begin_41 : decode b_Cr_begin 41 = .ok (.if_icmp .ge 13, 3) := by decide +kernel
theorem d_Cr_begin_44 : decode b_Cr_begin 44 = .ok (.aload_n 0, 1) := by decide +kernel
theorem d_Cr_begin_45 : decode b_Cr_begin 45 = .ok (.invokevirtual 35, 3) := by decide +kernel
theorem d_Cr_begin_48 : decode b_Cr_begin 48 = .ok (.iinc 4 1, 3) := by decide +kernel
theorem d_Cr_begin_51 : decode b_Cr_begin 51 = .ok (.goto (-14), 3) := by decide +kernel
theorem d_Cr_begin_54 : decode b_Cr_begin 54 = .ok (.return_, 1) := by decide +kernel
theorem d_Cr_choose_0 : decode b_Cr_choose 0 = .ok (.aload_n 0, 1) := by decide +kernel
theorem d_Cr_choose_1 : decode b_Cr_choose 1 = .ok (.getfield 23, 3) := by decide +kernel
theorem d_Cr_choose_4 : decode b_Cr_choose 4 = .ok (.iload_n 1, 1) := by decide +kernel
theorem d_Cr_choose_5 : decode b_Cr_choose 5 = .ok (.if_icmp .ge 5, 3) := by decide +kernel
theorem d_Cr_choose_8 : decode b_Cr_choose 8 = .ok (.iconst 0, 1) := by decide +kernel
theorem d_Cr_choose_9 : decode b_Cr_choose 9 = .ok (.ireturn, 1) := by decide +kernel
theorem d_Cr_choose_10 : decode b_Cr_choose 10 = .ok (.aload_n 0, 1) := by decide +kernel
theorem d_Cr_choose_11 : decode b_Cr_choose 11 = .ok (.dup, 1) := by decide +kernel
theorem d_Cr_choose_12 : decode b_Cr_choose 12 = .ok (.getfield 23, 3) := by decide +kernel
theorem d_Cr_choose_15 : decode b_Cr_choose 15 = .ok (.iload_n 1, 1) := by decide +kernel
theorem d_Cr_choose_16 : decode b_Cr_choose 16 = .ok (.isub, 1) := by decide +kernel
theorem d_Cr_choose_17 : decode b_Cr_choose 17 = .ok (.putfield 23, 3) := by decide +kernel
theorem d_Cr_choose_20 : decode b_Cr_choose 20 = .ok (.iconst 1, 1) := by decide +kernel
theorem d_Cr_choose_21 : decode b_Cr_choose 21 = .ok (.ireturn, 1) := by decide +kernel
theorem d_Cr_shift_0 : decode b_Cr_shift 0 = .ok (.aload_n 0, 1) := by decide +kernel
theorem d_Cr_shift_1 : decode b_Cr_shift 1 = .ok (.dup, 1) := by decide +kernel
theorem d_Cr_shift_2 : decode b_Cr_shift 2 = .ok (.getfield 23, 3) := by decide +kernel
theorem d_Cr_shift_5 : decode b_Cr_shift 5 = .ok (.iconst 2, 1) := by decide +kernel
theorem d_Cr_shift_6 : decode b_Cr_shift 6 = .ok (.imul, 1) := by decide +kernel
theorem d_Cr_shift_7 : decode b_Cr_shift 7 = .ok (.putfield 23, 3) := by decide +kernel
theorem d_Cr_shift_10 : decode b_Cr_shift 10 = .ok (.aload_n 0, 1) := by decide +kernel
theorem d_Cr_shift_11 : decode b_Cr_shift 11 = .ok (.getfield 13, 3) := by decide +kernel
theorem d_Cr_shift_14 : decode b_Cr_shift 14 = .ok (.aload_n 0, 1) := by decide +kernel
theorem d_Cr_shift_15 : decode b_Cr_shift 15 = .ok (.getfield 17, 3) := by decide +kernel
theorem d_Cr_shift_18 : decode b_Cr_shift 18 = .ok (.if_icmp .ge 65, 3) := by decide +kernel
theorem d_Cr_shift_21 : decode b_Cr_shift 21 = .ok (.aload_n 0, 1) := by decide +kernel
theorem d_Cr_shift_22 : decode b_Cr_shift 22 = .ok (.dup, 1) := by decide +kernel
theorem d_Cr_shift_23 : decode b_Cr_shift 23 = .ok (.getfield 23, 3) := by decide +kernel
theorem d_Cr_shift_26 : decode b_Cr_shift 26 = .ok (.aload_n 0, 1) := by decide +kernel
theorem d_Cr_shift_27 : decode b_Cr_shift 27 = .ok (.getfield 7, 3) := by decide +kernel
theorem d_Cr_shift_30 : decode b_Cr_shift 30 = .ok (.aload_n 0, 1) := by decide +kernel
theorem d_Cr_shift_31 : decode b_Cr_shift 31 = .ok (.getfield 13, 3) := by decide +kernel
theorem d_Cr_shift_34 : decode b_Cr_shift 34 = .ok (.iaload, 1) := by decide +kernel
theorem d_Cr_shift_35 : decode b_Cr_shift 35 = .ok (.bipush 7, 2) := by decide +kernel
theorem d_Cr_shift_37 : decode b_Cr_shift 37 = .ok (.aload_n 0, 1) := by decide +kernel
theorem d_Cr_shift_38 : decode b_Cr_shift 38 = .ok (.getfield 20, 3) := by decide +kernel
theorem d_Cr_shift_41 : decode b_Cr_shift 41 = .ok (.isub, 1) := by decide +kernel
theorem d_Cr_shift_42 : decode b_Cr_shift 42 = .ok (.ishr, 1) := by decide +kernel
theorem d_Cr_shift_43 : decode b_Cr_shift 43 = .ok (.iconst 1, 1) := by decide +kernel
theorem d_Cr_shift_44 : decode b_Cr_shift 44 = .ok (.iand, 1) := by decide +kernel
theorem d_Cr_shift_45 : decode b_Cr_shift 45 = .ok (.iadd, 1) := by decide +kernel
theorem d_Cr_shift_46 : decode b_Cr_shift 46 = .ok (.putfield 23, 3) := by decide +kernel
theorem d_Cr_shift_49 : decode b_Cr_shift 49 = .ok (.aload_n 0, 1) := by decide +kernel
theorem d_Cr_shift_50 : decode b_Cr_shift 50 = .ok (.aload_n 0, 1) := by decide +kernel
theorem d_Cr_shift_51 : decode b_Cr_shift 51 = .ok (.getfield 20, 3) := by decide +kernel
theorem d_Cr_shift_54 : decode b_Cr_shift 54 = .ok (.iconst 1, 1) := by decide +kernel
theorem d_Cr_shift_55 : decode b_Cr_shift 55 = .ok (.iadd, 1) := by decide +kernel
theorem d_Cr_shift_56 : decode b_Cr_shift 56 = .ok (.bipush 8, 2) := by decide +kernel
theorem d_Cr_shift_58 : decode b_Cr_shift 58 = .ok (.irem, 1) := by decide +kernel
theorem d_Cr_shift_59 : decode b_Cr_shift 59 = .ok (.putfield 20, 3) := by decide +kernel
theorem d_Cr_shift_62 : decode b_Cr_shift 62 = .ok (.aload_n 0, 1) := by decide +kernel
theorem d_Cr_shift_63 : decode b_Cr_shift 63 = .ok (.dup, 1) := by decide +kernel
theorem d_Cr_shift_64 : decode b_Cr_shift 64 = .ok (.getfield 13, 3) := by decide +kernel
theorem d_Cr_shift_67 : decode b_Cr_shift 67 = .ok (.aload_n 0, 1) := by decide +kernel
theorem d_Cr_shift_68 : decode b_Cr_shift 68 = .ok (.getfield 20, 3) := by decide +kernel
theorem d_Cr_shift_71 : decode b_Cr_shift 71 = .ok (.ifCond .ne 7, 3) := by decide +kernel
theorem d_Cr_shift_74 : decode b_Cr_shift 74 = .ok (.iconst 1, 1) := by decide +kernel
theorem d_Cr_shift_75 : decode b_Cr_shift 75 = .ok (.goto 4, 3) := by decide +kernel
theorem d_Cr_shift_78 : decode b_Cr_shift 78 = .ok (.iconst 0, 1) := by decide +kernel
theorem d_Cr_shift_79 : decode b_Cr_shift 79 = .ok (.iadd, 1) := by decide +kernel
theorem d_Cr_shift_80 : decode b_Cr_shift 80 = .ok (.putfield 13, 3) := by decide +kernel
theorem d_Cr_shift_83 : decode b_Cr_shift 83 = .ok (.return_, 1) := by decide +kernel
