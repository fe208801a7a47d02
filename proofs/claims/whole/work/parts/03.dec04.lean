theorem d_Ly_undoCoefficients_0 : decode b_Ly_undoCoefficients 0 = .ok (.aload_n 0, 1) := by decide +kernel
theorem d_Ly_undoCoefficients_1 : decode b_Ly_undoCoefficients 1 = .ok (.getfield 23, 3) := by decide +kernel
theorem d_Ly_undoCoefficients_4 : decode b_Ly_undoCoefficients 4 = .ok (.iconst 0, 1) := by decide +kernel
theorem d_Ly_undoCoefficients_5 : decode b_Ly_undoCoefficients 5 = .ok (.aload_n 0, 1) := by decide +kernel
theorem d_Ly_undoCoefficients_6 : decode b_Ly_undoCoefficients 6 = .ok (.getfield 19, 3) := by decide +kernel
theorem d_Ly_undoCoefficients_9 : decode b_Ly_undoCoefficients 9 = .ok (.iconst 0, 1) := by decide +kernel
theorem d_Ly_undoCoefficients_10 : decode b_Ly_undoCoefficients 10 = .ok (.aload_n 0, 1) := by decide +kernel
theorem d_Ly_undoCoefficients_11 : decode b_Ly_undoCoefficients 11 = .ok (.getfield 19, 3) := by decide +kernel
theorem d_Ly_undoCoefficients_14 : decode b_Ly_undoCoefficients 14 = .ok (.arraylength, 1) := by decide +kernel
theorem d_Ly_undoCoefficients_15 : decode b_Ly_undoCoefficients 15 = .ok (.invokestatic 46, 3) := by decide +kernel
theorem d_Ly_undoCoefficients_18 : decode b_Ly_undoCoefficients 18 = .ok (.iconst 2, 1) := by decide +kernel
theorem d_Ly_undoCoefficients_19 : decode b_Ly_undoCoefficients 19 = .ok (.istore_n 1, 1) := by decide +kernel
theorem d_Ly_undoCoefficients_20 : decode b_Ly_undoCoefficients 20 = .ok (.iload_n 1, 1) := by decide +kernel
theorem d_Ly_undoCoefficients_21 : decode b_Ly_undoCoefficients 21 = .ok (.aload_n 0, 1) := by decide +kernel
theorem d_Ly_undoCoefficients_22 : decode b_Ly_undoCoefficients 22 = .ok (.getfield 15, 3) := by decide +kernel
theorem d_Ly_undoCoefficients_25 : decode b_Ly_undoCoefficients 25 = .ok (.if_icmp .gt 58, 3) := by decide +kernel
theorem d_Ly_undoCoefficients_28 : decode b_Ly_undoCoefficients 28 = .ok (.iconst 0, 1) := by decide +kernel
theorem d_Ly_undoCoefficients_29 : decode b_Ly_undoCoefficients 29 = .ok (.istore_n 2, 1) := by decide +kernel
theorem d_Ly_undoCoefficients_30 : decode b_Ly_undoCoefficients 30 = .ok (.iload_n 2, 1) := by decide +kernel
theorem d_Ly_undoCoefficients_31 : decode b_Ly_undoCoefficients 31 = .ok (.iload_n 1, 1) := by decide +kernel
theorem d_Ly_undoCoefficients_32 : decode b_Ly_undoCoefficients 32 = .ok (.if_icmp .ge 19, 3) := by decide +kernel
theorem d_Ly_undoCoefficients_35 : decode b_Ly_undoCoefficients 35 = .ok (.aload_n 0, 1) := by decide +kernel
theorem d_Ly_undoCoefficients_36 : decode b_Ly_undoCoefficients 36 = .ok (.iload_n 2, 1) := by decide +kernel
theorem d_Ly_undoCoefficients_37 : decode b_Ly_undoCoefficients 37 = .ok (.aload_n 0, 1) := by decide +kernel
theorem d_Ly_undoCoefficients_38 : decode b_Ly_undoCoefficients 38 = .ok (.getfield 15, 3) := by decide +kernel
theorem d_Ly_undoCoefficients_41 : decode b_Ly_undoCoefficients 41 = .ok (.iload_n 1, 1) := by decide +kernel
theorem d_Ly_undoCoefficients_42 : decode b_Ly_undoCoefficients 42 = .ok (.invokevirtual 56, 3) := by decide +kernel
theorem d_Ly_undoCoefficients_45 : decode b_Ly_undoCoefficients 45 = .ok (.iinc 2 1, 3) := by decide +kernel
theorem d_Ly_undoCoefficients_48 : decode b_Ly_undoCoefficients 48 = .ok (.goto (-18), 3) := by decide +kernel
theorem d_Ly_undoCoefficients_51 : decode b_Ly_undoCoefficients 51 = .ok (.iconst 0, 1) := by decide +kernel
theorem d_Ly_undoCoefficients_52 : decode b_Ly_undoCoefficients 52 = .ok (.istore_n 2, 1) := by decide +kernel
theorem d_Ly_undoCoefficients_53 : decode b_Ly_undoCoefficients 53 = .ok (.iload_n 2, 1) := by decide +kernel
theorem d_Ly_undoCoefficients_54 : decode b_Ly_undoCoefficients 54 = .ok (.iload_n 1, 1) := by decide +kernel
theorem d_Ly_undoCoefficients_55 : decode b_Ly_undoCoefficients 55 = .ok (.if_icmp .ge 21, 3) := by decide +kernel
theorem d_Ly_undoCoefficients_58 : decode b_Ly_undoCoefficients 58 = .ok (.aload_n 0, 1) := by decide +kernel
theorem d_Ly_undoCoefficients_59 : decode b_Ly_undoCoefficients 59 = .ok (.aload_n 0, 1) := by decide +kernel
theorem d_Ly_undoCoefficients_60 : decode b_Ly_undoCoefficients 60 = .ok (.getfield 15, 3) := by decide +kernel
theorem d_Ly_undoCoefficients_63 : decode b_Ly_undoCoefficients 63 = .ok (.iload_n 2, 1) := by decide +kernel
theorem d_Ly_undoCoefficients_64 : decode b_Ly_undoCoefficients 64 = .ok (.imul, 1) := by decide +kernel
theorem d_Ly_undoCoefficients_65 : decode b_Ly_undoCoefficients 65 = .ok (.iconst 1, 1) := by decide +kernel
theorem d_Ly_undoCoefficients_66 : decode b_Ly_undoCoefficients 66 = .ok (.iload_n 1, 1) := by decide +kernel
theorem d_Ly_undoCoefficients_67 : decode b_Ly_undoCoefficients 67 = .ok (.invokevirtual 56, 3) := by decide +kernel
theorem d_Ly_undoCoefficients_70 : decode b_Ly_undoCoefficients 70 = .ok (.iinc 2 1, 3) := by decide +kernel
theorem d_Ly_undoCoefficients_73 : decode b_Ly_undoCoefficients 73 = .ok (.goto (-20), 3) := by decide +kernel
theorem d_Ly_undoCoefficients_76 : decode b_Ly_undoCoefficients 76 = .ok (.iload_n 1, 1) := by decide +kernel
theorem d_Ly_undoCoefficients_77 : decode b_Ly_undoCoefficients 77 = .ok (.iconst 2, 1) := by decide +kernel
theorem d_Ly_undoCoefficients_78 : decode b_Ly_undoCoefficients 78 = .ok (.imul, 1) := by decide +kernel
theorem d_Ly_undoCoefficients_79 : decode b_Ly_undoCoefficients 79 = .ok (.istore_n 1, 1) := by decide +kernel
theorem d_Ly_undoCoefficients_80 : decode b_Ly_undoCoefficients 80 = .ok (.goto (-60), 3) := by decide +kernel
theorem d_Ly_undoCoefficients_83 : decode b_Ly_undoCoefficients 83 = .ok (.iconst 0, 1) := by decide +kernel
theorem d_Ly_undoCoefficients_84 : decode b_Ly_undoCoefficients 84 = .ok (.istore_n 1, 1) := by decide +kernel
theorem d_Ly_undoCoefficients_85 : decode b_Ly_undoCoefficients 85 = .ok (.iload_n 1, 1) := by decide +kernel
theorem d_Ly_undoCoefficients_86 : decode b_Ly_undoCoefficients 86 = .ok (.aload_n 0, 1) := by decide +kernel
theorem d_Ly_undoCoefficients_87 : decode b_Ly_undoCoefficients 87 = .ok (.getfield 19, 3) := by decide +kernel
theorem d_Ly_undoCoefficients_90 : decode b_Ly_undoCoefficients 90 = .ok (.arraylength, 1) := by decide +kernel
theorem d_Ly_undoCoefficients_91 : decode b_Ly_undoCoefficients 91 = .ok (.if_icmp .ge 30, 3) := by decide +kernel
theorem d_Ly_undoCoefficients_94 : decode b_Ly_undoCoefficients 94 = .ok (.aload_n 0, 1) := by decide +kernel
theorem d_Ly_undoCoefficients_95 : decode b_Ly_undoCoefficients 95 = .ok (.getfield 19, 3) := by decide +kernel
theorem d_Ly_undoCoefficients_98 : decode b_Ly_undoCoefficients 98 = .ok (.iload_n 1, 1) := by decide +kernel
theorem d_Ly_undoCoefficients_99 : decode b_Ly_undoCoefficients 99 = .ok (.iconst 0, 1) := by decide +kernel
theorem d_Ly_undoCoefficients_100 : decode b_Ly_undoCoefficients 100 = .ok (.bipush 63, 2) := by decide +kernel
theorem d_Ly_undoCoefficients_102 : decode b_Ly_undoCoefficients 102 = .ok (.aload_n 0, 1) := by decide +kernel
theorem d_Ly_undoCoefficients_103 : decode b_Ly_undoCoefficients 103 = .ok (.getfield 19, 3) := by decide +kernel
theorem d_Ly_undoCoefficients_106 : decode b_Ly_undoCoefficients 106 = .ok (.iload_n 1, 1) := by decide +kernel
theorem d_Ly_undoCoefficients_107 : decode b_Ly_undoCoefficients 107 = .ok (.iaload, 1) := by decide +kernel
theorem d_Ly_undoCoefficients_108 : decode b_Ly_undoCoefficients 108 = .ok (.invokestatic 59, 3) := by decide +kernel
theorem d_Ly_undoCoefficients_111 : decode b_Ly_undoCoefficients 111 = .ok (.invokestatic 64, 3) := by decide +kernel
theorem d_Ly_undoCoefficients_114 : decode b_Ly_undoCoefficients 114 = .ok (.iastore, 1) := by decide +kernel
theorem d_Ly_undoCoefficients_115 : decode b_Ly_undoCoefficients 115 = .ok (.iinc 1 1, 3) := by decide +kernel
theorem d_Ly_undoCoefficients_118 : decode b_Ly_undoCoefficients 118 = .ok (.goto (-33), 3) := by decide +kernel
theorem d_Ly_undoCoefficients_121 : decode b_Ly_undoCoefficients 121 = .ok (.return_, 1) := by decide +kernel
theorem d_Ly_undoLine_0 : decode b_Ly_undoLine 0 = .ok (.iload_n 3, 1) := by decide +kernel
theorem d_Ly_undoLine_1 : decode b_Ly_undoLine 1 = .ok (.iconst 2, 1) := by decide +kernel
theorem d_Ly_undoLine_2 : decode b_Ly_undoLine 2 = .ok (.idiv, 1) := by decide +kernel
theorem d_Ly_undoLine_3 : decode b_Ly_undoLine 3 = .ok (.istore 4, 2) := by decide +kernel
theorem d_Ly_undoLine_5 : decode b_Ly_undoLine 5 = .ok (.iconst 0, 1) := by decide +kernel
theorem d_Ly_undoLine_6 : decode b_Ly_undoLine 6 = .ok (.istore 5, 2) := by decide +kernel
theorem d_Ly_undoLine_8 : decode b_Ly_undoLine 8 = .ok (.iload 5, 2) := by decide +kernel
theorem d_Ly_undoLine_10 : decode b_Ly_undoLine 10 = .ok (.iload_n 3, 1) := by decide +kernel
theorem d_Ly_undoLine_11 : decode b_Ly_undoLine 11 = .ok (.if_icmp .ge 27, 3) := by decide +kernel
theorem d_Ly_undoLine_14 : decode b_Ly_undoLine 14 = .ok (.aload_n 0, 1) := by decide +kernel
theorem d_Ly_undoLine_15 : decode b_Ly_undoLine 15 = .ok (.getfield 29, 3) := by decide +kernel
theorem d_Ly_undoLine_18 : decode b_Ly_undoLine 18 = .ok (.iload 5, 2) := by decide +kernel
theorem d_Ly_undoLine_20 : decode b_Ly_undoLine 20 = .ok (.aload_n 0, 1) := by decide +kernel
theorem d_Ly_undoLine_21 : decode b_Ly_undoLine 21 = .ok (.getfield 19, 3) := by decide +kernel
theorem d_Ly_undoLine_24 : decode b_Ly_undoLine 24 = .ok (.iload_n 1, 1) := by decide +kernel
theorem d_Ly_undoLine_25 : decode b_Ly_undoLine 25 = .ok (.iload 5, 2) := by decide +kernel
theorem d_Ly_undoLine_27 : decode b_Ly_undoLine 27 = .ok (.iload_n 2, 1) := by decide +kernel
theorem d_Ly_undoLine_28 : decode b_Ly_undoLine 28 = .ok (.imul, 1) := by decide +kernel
theorem d_Ly_undoLine_29 : decode b_Ly_undoLine 29 = .ok (.iadd, 1) := by decide +kernel
theorem d_Ly_undoLine_30 : decode b_Ly_undoLine 30 = .ok (.iaload, 1) := by decide +kernel
theorem d_Ly_undoLine_31 : decode b_Ly_undoLine 31 = .ok (.iastore, 1) := by decide +kernel
theorem d_Ly_undoLine_32 : decode b_Ly_undoLine 32 = .ok (.iinc 5 1, 3) := by decide +kernel
theorem d_Ly_undoLine_35 : decode b_Ly_undoLine 35 = .ok (.goto (-27), 3) := by decide +kernel
theorem d_Ly_undoLine_38 : decode b_Ly_undoLine 38 = .ok (.iconst 0, 1) := by decide +kernel
theorem d_Ly_undoLine_39 : decode b_Ly_undoLine 39 = .ok (.istore 5, 2) := by decide +kernel
theorem d_Ly_undoLine_41 : decode b_Ly_undoLine 41 = .ok (.iload 5, 2) := by decide +kernel
theorem d_Ly_undoLine_43 : decode b_Ly_undoLine 43 = .ok (.iload 4, 2) := by decide +kernel
theorem d_Ly_undoLine_45 : decode b_Ly_undoLine 45 = .ok (.if_icmp .ge 71, 3) := by decide +kernel
theorem d_Ly_undoLine_48 : decode b_Ly_undoLine 48 = .ok (.aload_n 0, 1) := by decide +kernel
theorem d_Ly_undoLine_49 : decode b_Ly_undoLine 49 = .ok (.getfield 29, 3) := by decide +kernel
theorem d_Ly_undoLine_52 : decode b_Ly_undoLine 52 = .ok (.iload 5, 2) := by decide +kernel
theorem d_Ly_undoLine_54 : decode b_Ly_undoLine 54 = .ok (.ifCond .ne 8, 3) := by decide +kernel
theorem d_Ly_undoLine_57 : decode b_Ly_undoLine 57 = .ok (.iload 4, 2) := by decide +kernel
theorem d_Ly_undoLine_59 : decode b_Ly_undoLine 59 = .ok (.goto 10, 3) := by decide +kernel
theorem d_Ly_undoLine_62 : decode b_Ly_undoLine 62 = .ok (.iload 4, 2) := by decide +kernel
theorem d_Ly_undoLine_64 : decode b_Ly_undoLine 64 = .ok (.iload 5, 2) := by decide +kernel
theorem d_Ly_undoLine_66 : decode b_Ly_undoLine 66 = .ok (.iadd, 1) := by decide +kernel
theorem d_Ly_undoLine_67 : decode b_Ly_undoLine 67 = .ok (.iconst 1, 1) := by decide +kernel
theorem d_Ly_undoLine_68 : decode b_Ly_undoLine 68 = .ok (.isub, 1) := by decide +kernel
theorem d_Ly_undoLine_69 : decode b_Ly_undoLine 69 = .ok (.iaload, 1) := by decide +kernel
theorem d_Ly_undoLine_70 : decode b_Ly_undoLine 70 = .ok (.istore 6, 2) := by decide +kernel
theorem d_Ly_undoLine_72 : decode b_Ly_undoLine 72 = .ok (.aload_n 0, 1) := by decide +kernel
theorem d_Ly_undoLine_73 : decode b_Ly_undoLine 73 = .ok (.getfield 19, 3) := by decide +kernel
theorem d_Ly_undoLine_76 : decode b_Ly_undoLine 76 = .ok (.iload_n 1, 1) := by decide +kernel
theorem d_Ly_undoLine_77 : decode b_Ly_undoLine 77 = .ok (.iconst 2, 1) := by decide +kernel
theorem d_Ly_undoLine_78 : decode b_Ly_undoLine 78 = .ok (.iload 5, 2) := by decide +kernel
theorem d_Ly_undoLine_80 : decode b_Ly_undoLine 80 = .ok (.imul, 1) := by decide +kernel
theorem d_Ly_undoLine_81 : decode b_Ly_undoLine 81 = .ok (.iload_n 2, 1) := by decide +kernel
theorem d_Ly_undoLine_82 : decode b_Ly_undoLine 82 = .ok (.imul, 1) := by decide +kernel
theorem d_Ly_undoLine_83 : decode b_Ly_undoLine 83 = .ok (.iadd, 1) := by decide +kernel
theorem d_Ly_undoLine_84 : decode b_Ly_undoLine 84 = .ok (.aload_n 0, 1) := by decide +kernel
theorem d_Ly_undoLine_85 : decode b_Ly_undoLine 85 = .ok (.getfield 29, 3) := by decide +kernel
theorem d_Ly_undoLine_88 : decode b_Ly_undoLine 88 = .ok (.iload 5, 2) := by decide +kernel
theorem d_Ly_undoLine_90 : decode b_Ly_undoLine 90 = .ok (.iaload, 1) := by decide +kernel
theorem d_Ly_undoLine_91 : decode b_Ly_undoLine 91 = .ok (.iload 6, 2) := by decide +kernel
theorem d_Ly_undoLine_93 : decode b_Ly_undoLine 93 = .ok (.aload_n 0, 1) := by decide +kernel
theorem d_Ly_undoLine_94 : decode b_Ly_undoLine 94 = .ok (.getfield 29, 3) := by decide +kernel
theorem d_Ly_undoLine_97 : decode b_Ly_undoLine 97 = .ok (.iload 4, 2) := by decide +kernel
theorem d_Ly_undoLine_99 : decode b_Ly_undoLine 99 = .ok (.iload 5, 2) := by decide +kernel
theorem d_Ly_undoLine_101 : decode b_Ly_undoLine 101 = .ok (.iadd, 1) := by decide +kernel
theorem d_Ly_undoLine_102 : decode b_Ly_undoLine 102 = .ok (.iaload, 1) := by decide +kernel
theorem d_Ly_undoLine_103 : decode b_Ly_undoLine 103 = .ok (.iadd, 1) := by decide +kernel
theorem d_Ly_undoLine_104 : decode b_Ly_undoLine 104 = .ok (.iconst 2, 1) := by decide +kernel
theorem d_Ly_undoLine_105 : decode b_Ly_undoLine 105 = .ok (.iadd, 1) := by decide +kernel
theorem d_Ly_undoLine_106 : decode b_Ly_undoLine 106 = .ok (.iconst 2, 1) := by decide +kernel
theorem d_Ly_undoLine_107 : decode b_Ly_undoLine 107 = .ok (.ishr, 1) := by decide +kernel
theorem d_Ly_undoLine_108 : decode b_Ly_undoLine 108 = .ok (.isub, 1) := by decide +kernel
theorem d_Ly_undoLine_109 : decode b_Ly_undoLine 109 = .ok (.iastore, 1) := by decide +kernel
theorem d_Ly_undoLine_110 : decode b_Ly_undoLine 110 = .ok (.iinc 5 1, 3) := by decide +kernel
theorem d_Ly_undoLine_113 : decode b_Ly_undoLine 113 = .ok (.goto (-72), 3) := by decide +kernel
theorem d_Ly_undoLine_116 : decode b_Ly_undoLine 116 = .ok (.iconst 0, 1) := by decide +kernel
theorem d_Ly_undoLine_117 : decode b_Ly_undoLine 117 = .ok (.istore 5, 2) := by decide +kernel
theorem d_Ly_undoLine_119 : decode b_Ly_undoLine 119 = .ok (.iload 5, 2) := by decide +kernel
theorem d_Ly_undoLine_121 : decode b_Ly_undoLine 121 = .ok (.iload 4, 2) := by decide +kernel
theorem d_Ly_undoLine_123 : decode b_Ly_undoLine 123 = .ok (.if_icmp .ge 90, 3) := by decide +kernel
theorem d_Ly_undoLine_126 : decode b_Ly_undoLine 126 = .ok (.aload_n 0, 1) := by decide +kernel
theorem d_Ly_undoLine_127 : decode b_Ly_undoLine 127 = .ok (.getfield 19, 3) := by decide +kernel
theorem d_Ly_undoLine_130 : decode b_Ly_undoLine 130 = .ok (.iload_n 1, 1) := by decide +kernel
theorem d_Ly_undoLine_131 : decode b_Ly_undoLine 131 = .ok (.iconst 2, 1) := by decide +kernel
theorem d_Ly_undoLine_132 : decode b_Ly_undoLine 132 = .ok (.iload 5, 2) := by decide +kernel
theorem d_Ly_undoLine_134 : decode b_Ly_undoLine 134 = .ok (.imul, 1) := by decide +kernel
theorem d_Ly_undoLine_135 : decode b_Ly_undoLine 135 = .ok (.iload_n 2, 1) := by decide +kernel
theorem d_Ly_undoLine_136 : decode b_Ly_undoLine 136 = .ok (.imul, 1) := by decide +kernel
theorem d_Ly_undoLine_137 : decode b_Ly_undoLine 137 = .ok (.iadd, 1) := by decide +kernel
theorem d_Ly_undoLine_138 : decode b_Ly_undoLine 138 = .ok (.iaload, 1) := by decide +kernel
theorem d_Ly_undoLine_139 : decode b_Ly_undoLine 139 = .ok (.istore 6, 2) := by decide +kernel
theorem d_Ly_undoLine_141 : decode b_Ly_undoLine 141 = .ok (.aload_n 0, 1) := by decide +kernel
theorem d_Ly_undoLine_142 : decode b_Ly_undoLine 142 = .ok (.getfield 19, 3) := by decide +kernel
theorem d_Ly_undoLine_145 : decode b_Ly_undoLine 145 = .ok (.iload_n 1, 1) := by decide +kernel
theorem d_Ly_undoLine_146 : decode b_Ly_undoLine 146 = .ok (.iconst 2, 1) := by decide +kernel
theorem d_Ly_undoLine_147 : decode b_Ly_undoLine 147 = .ok (.iload 5, 2) := by decide +kernel
theorem d_Ly_undoLine_149 : decode b_Ly_undoLine 149 = .ok (.imul, 1) := by decide +kernel
theorem d_Ly_undoLine_150 : decode b_Ly_undoLine 150 = .ok (.iconst 2, 1) := by decide +kernel
theorem d_Ly_undoLine_151 : decode b_Ly_undoLine 151 = .ok (.iadd, 1) := by decide +kernel
theorem d_Ly_undoLine_152 : decode b_Ly_undoLine 152 = .ok (.iload_n 3, 1) := by decide +kernel
theorem d_Ly_undoLine_153 : decode b_Ly_undoLine 153 = .ok (.if_icmp .ge 12, 3) := by decide +kernel
theorem d_Ly_undoLine_156 : decode b_Ly_undoLine 156 = .ok (.iconst 2, 1) := by decide +kernel
theorem d_Ly_undoLine_157 : decode b_Ly_undoLine 157 = .ok (.iload 5, 2) := by decide +kernel
theorem d_Ly_undoLine_159 : decode b_Ly_undoLine 159 = .ok (.imul, 1) := by decide +kernel
theorem d_Ly_undoLine_160 : decode b_Ly_undoLine 160 = .ok (.iconst 2, 1) := by decide +kernel
theorem d_Ly_undoLine_161 : decode b_Ly_undoLine 161 = .ok (.iadd, 1) := by decide +kernel
theorem d_Ly_undoLine_162 : decode b_Ly_undoLine 162 = .ok (.goto 6, 3) := by decide +kernel
theorem d_Ly_undoLine_165 : decode b_Ly_undoLine 165 = .ok (.iload_n 3, 1) := by decide +kernel
theorem d_Ly_undoLine_166 : decode b_Ly_undoLine 166 = .ok (.iconst 2, 1) := by decide +kernel
theorem d_Ly_undoLine_167 : decode b_Ly_undoLine 167 = .ok (.isub, 1) := by decide +kernel
theorem d_Ly_undoLine_168 : decode b_Ly_undoLine 168 = .ok (.iload_n 2, 1) := by decide +kernel
theorem d_Ly_undoLine_169 : decode b_Ly_undoLine 169 = .ok (.imul, 1) := by decide +kernel
theorem d_Ly_undoLine_170 : decode b_Ly_undoLine 170 = .ok (.iadd, 1) := by decide +kernel
theorem d_Ly_undoLine_171 : decode b_Ly_undoLine 171 = .ok (.iaload, 1) := by decide +kernel
theorem d_Ly_undoLine_172 : decode b_Ly_undoLine 172 = .ok (.istore 7, 2) := by decide +kernel
theorem d_Ly_undoLine_174 : decode b_Ly_undoLine 174 = .ok (.aload_n 0, 1) := by decide +kernel
theorem d_Ly_undoLine_175 : decode b_Ly_undoLine 175 = .ok (.getfield 19, 3) := by decide +kernel
theorem d_Ly_undoLine_178 : decode b_Ly_undoLine 178 = .ok (.iload_n 1, 1) := by decide +kernel
theorem d_Ly_undoLine_179 : decode b_Ly_undoLine 179 = .ok (.iconst 2, 1) := by decide +kernel
theorem d_Ly_undoLine_180 : decode b_Ly_undoLine 180 = .ok (.iload 5, 2) := by decide +kernel
theorem d_Ly_undoLine_182 : decode b_Ly_undoLine 182 = .ok (.imul, 1) := by decide +kernel
theorem d_Ly_undoLine_183 : decode b_Ly_undoLine 183 = .ok (.iconst 1, 1) := by decide +kernel
theorem d_Ly_undoLine_184 : decode b_Ly_undoLine 184 = .ok (.iadd, 1) := by decide +kernel
theorem d_Ly_undoLine_185 : decode b_Ly_undoLine 185 = .ok (.iload_n 2, 1) := by decide +kernel
theorem d_Ly_undoLine_186 : decode b_Ly_undoLine 186 = .ok (.imul, 1) := by decide +kernel
theorem d_Ly_undoLine_187 : decode b_Ly_undoLine 187 = .ok (.iadd, 1) := by decide +kernel
theorem d_Ly_undoLine_188 : decode b_Ly_undoLine 188 = .ok (.aload_n 0, 1) := by decide +kernel
theorem d_Ly_undoLine_189 : decode b_Ly_undoLine 189 = .ok (.getfield 29, 3) := by decide +kernel
theorem d_Ly_undoLine_192 : decode b_Ly_undoLine 192 = .ok (.iload 4, 2) := by decide +kernel
theorem d_Ly_undoLine_194 : decode b_Ly_undoLine 194 = .ok (.iload 5, 2) := by decide +kernel
theorem d_Ly_undoLine_196 : decode b_Ly_undoLine 196 = .ok (.iadd, 1) := by decide +kernel
theorem d_Ly_undoLine_197 : decode b_Ly_undoLine 197 = .ok (.iaload, 1) := by decide +kernel
theorem d_Ly_undoLine_198 : decode b_Ly_undoLine 198 = .ok (.iload 6, 2) := by decide +kernel
theorem d_Ly_undoLine_200 : decode b_Ly_undoLine 200 = .ok (.iload 7, 2) := by decide +kernel
theorem d_Ly_undoLine_202 : decode b_Ly_undoLine 202 = .ok (.iadd, 1) := by decide +kernel
theorem d_Ly_undoLine_203 : decode b_Ly_undoLine 203 = .ok (.iconst 1, 1) := by decide +kernel
theorem d_Ly_undoLine_204 : decode b_Ly_undoLine 204 = .ok (.ishr, 1) := by decide +kernel
theorem d_Ly_undoLine_205 : decode b_Ly_undoLine 205 = .ok (.iadd, 1) := by decide +kernel
theorem d_Ly_undoLine_206 : decode b_Ly_undoLine 206 = .ok (.iastore, 1) := by decide +kernel
theorem d_Ly_undoLine_207 : decode b_Ly_undoLine 207 = .ok (.iinc 5 1, 3) := by decide +kernel
theorem d_Ly_undoLine_210 : decode b_Ly_undoLine 210 = .ok (.goto (-91), 3) := by decide +kernel
theorem d_Ly_undoLine_213 : decode b_Ly_undoLine 213 = .ok (.return_, 1) := by decide +kernel
theorem d_Ly_codeCoefficients_0 : decode b_Ly_codeCoefficients 0 = .ok (.aload_n 0, 1) := by decide +kernel
theorem d_Ly_codeCoefficients_1 : decode b_Ly_codeCoefficients 1 = .ok (.getfield 26, 3) := by decide +kernel
theorem d_Ly_codeCoefficients_4 : decode b_Ly_codeCoefficients 4 = .ok (.iconst 0, 1) := by decide +kernel
theorem d_Ly_codeCoefficients_5 : decode b_Ly_codeCoefficients 5 = .ok (.invokestatic 32, 3) := by decide +kernel
theorem d_Ly_codeCoefficients_8 : decode b_Ly_codeCoefficients 8 = .ok (.bipush 9, 2) := by decide +kernel
theorem d_Ly_codeCoefficients_10 : decode b_Ly_codeCoefficients 10 = .ok (.istore_n 3, 1) := by decide +kernel
theorem d_Ly_codeCoefficients_11 : decode b_Ly_codeCoefficients 11 = .ok (.iload_n 3, 1) := by decide +kernel
theorem d_Ly_codeCoefficients_12 : decode b_Ly_codeCoefficients 12 = .ok (.bipush 10, 2) := by decide +kernel
theorem d_Ly_codeCoefficients_14 : decode b_Ly_codeCoefficients 14 = .ok (.iload_n 1, 1) := by decide +kernel
theorem d_Ly_codeCoefficients_15 : decode b_Ly_codeCoefficients 15 = .ok (.isub, 1) := by decide +kernel
theorem d_Ly_codeCoefficients_16 : decode b_Ly_codeCoefficients 16 = .ok (.if_icmp .lt 36, 3) := by decide +kernel
theorem d_Ly_codeCoefficients_19 : decode b_Ly_codeCoefficients 19 = .ok (.iconst 0, 1) := by decide +kernel
theorem d_Ly_codeCoefficients_20 : decode b_Ly_codeCoefficients 20 = .ok (.istore 4, 2) := by decide +kernel
theorem d_Ly_codeCoefficients_22 : decode b_Ly_codeCoefficients 22 = .ok (.iload 4, 2) := by decide +kernel
theorem d_Ly_codeCoefficients_24 : decode b_Ly_codeCoefficients 24 = .ok (.aload_n 0, 1) := by decide +kernel
theorem d_Ly_codeCoefficients_25 : decode b_Ly_codeCoefficients 25 = .ok (.getfield 26, 3) := by decide +kernel
theorem d_Ly_codeCoefficients_28 : decode b_Ly_codeCoefficients 28 = .ok (.arraylength, 1) := by decide +kernel
theorem d_Ly_codeCoefficients_29 : decode b_Ly_codeCoefficients 29 = .ok (.if_icmp .ge 17, 3) := by decide +kernel
theorem d_Ly_codeCoefficients_32 : decode b_Ly_codeCoefficients 32 = .ok (.aload_n 0, 1) := by decide +kernel
theorem d_Ly_codeCoefficients_33 : decode b_Ly_codeCoefficients 33 = .ok (.iload_n 3, 1) := by decide +kernel
theorem d_Ly_codeCoefficients_34 : decode b_Ly_codeCoefficients 34 = .ok (.iload 4, 2) := by decide +kernel
theorem d_Ly_codeCoefficients_36 : decode b_Ly_codeCoefficients 36 = .ok (.aload_n 2, 1) := by decide +kernel
theorem d_Ly_codeCoefficients_37 : decode b_Ly_codeCoefficients 37 = .ok (.invokevirtual 67, 3) := by decide +kernel
theorem d_Ly_codeCoefficients_40 : decode b_Ly_codeCoefficients 40 = .ok (.iinc 4 1, 3) := by decide +kernel
theorem d_Ly_codeCoefficients_43 : decode b_Ly_codeCoefficients 43 = .ok (.goto (-21), 3) := by decide +kernel
theorem d_Ly_codeCoefficients_46 : decode b_Ly_codeCoefficients 46 = .ok (.iinc 3 (-1), 3) := by decide +kernel
theorem d_Ly_codeCoefficients_49 : decode b_Ly_codeCoefficients 49 = .ok (.goto (-38), 3) := by decide +kernel
theorem d_Ly_codeCoefficients_52 : decode b_Ly_codeCoefficients 52 = .ok (.aload_n 0, 1) := by decide +kernel
theorem d_Ly_codeCoefficients_53 : decode b_Ly_codeCoefficients 53 = .ok (.getfield 26, 3) := by decide +kernel
theorem d_Ly_codeCoefficients_56 : decode b_Ly_codeCoefficients 56 = .ok (.iconst 0, 1) := by decide +kernel
theorem d_Ly_codeCoefficients_57 : decode b_Ly_codeCoefficients 57 = .ok (.aload_n 0, 1) := by decide +kernel
theorem d_Ly_codeCoefficients_58 : decode b_Ly_codeCoefficients 58 = .ok (.getfield 23, 3) := by decide +kernel
theorem d_Ly_codeCoefficients_61 : decode b_Ly_codeCoefficients 61 = .ok (.iconst 0, 1) := by decide +kernel
theorem d_Ly_codeCoefficients_62 : decode b_Ly_codeCoefficients 62 = .ok (.aload_n 0, 1) := by decide +kernel
theorem d_Ly_codeCoefficients_63 : decode b_Ly_codeCoefficients 63 = .ok (.getfield 26, 3) := by decide +kernel
theorem d_Ly_codeCoefficients_66 : decode b_Ly_codeCoefficients 66 = .ok (.arraylength, 1) := by decide +kernel
theorem d_Ly_codeCoefficients_67 : decode b_Ly_codeCoefficients 67 = .ok (.invokestatic 46, 3) := by decide +kernel
theorem d_Ly_codeCoefficients_70 : decode b_Ly_codeCoefficients 70 = .ok (.return_, 1) := by decide +kernel
theorem d_Ly_codePlaneBit_0 : decode b_Ly_codePlaneBit 0 = .ok (.aload_n 0, 1) := by decide +kernel
theorem d_Ly_codePlaneBit_1 : decode b_Ly_codePlaneBit 1 = .ok (.getfield 23, 3) := by decide +kernel
theorem d_Ly_codePlaneBit_4 : decode b_Ly_codePlaneBit 4 = .ok (.iload_n 2, 1) := by decide +kernel
theorem d_Ly_codePlaneBit_5 : decode b_Ly_codePlaneBit 5 = .ok (.iaload, 1) := by decide +kernel
theorem d_Ly_codePlaneBit_6 : decode b_Ly_codePlaneBit 6 = .ok (.istore 4, 2) := by decide +kernel
theorem d_Ly_codePlaneBit_8 : decode b_Ly_codePlaneBit 8 = .ok (.iload 4, 2) := by decide +kernel
theorem d_Ly_codePlaneBit_10 : decode b_Ly_codePlaneBit 10 = .ok (.invokestatic 71, 3) := by decide +kernel
theorem d_Ly_codePlaneBit_13 : decode b_Ly_codePlaneBit 13 = .ok (.iload_n 1, 1) := by decide +kernel
theorem d_Ly_codePlaneBit_14 : decode b_Ly_codePlaneBit 14 = .ok (.ishr, 1) := by decide +kernel
theorem d_Ly_codePlaneBit_15 : decode b_Ly_codePlaneBit 15 = .ok (.iconst 1, 1) := by decide +kernel
theorem d_Ly_codePlaneBit_16 : decode b_Ly_codePlaneBit 16 = .ok (.iand, 1) := by decide +kernel
theorem d_Ly_codePlaneBit_17 : decode b_Ly_codePlaneBit 17 = .ok (.istore 5, 2) := by decide +kernel
theorem d_Ly_codePlaneBit_19 : decode b_Ly_codePlaneBit 19 = .ok (.aload_n 0, 1) := by decide +kernel
theorem d_Ly_codePlaneBit_20 : decode b_Ly_codePlaneBit 20 = .ok (.getfield 26, 3) := by decide +kernel
theorem d_Ly_codePlaneBit_23 : decode b_Ly_codePlaneBit 23 = .ok (.iload_n 2, 1) := by decide +kernel
theorem d_Ly_codePlaneBit_24 : decode b_Ly_codePlaneBit 24 = .ok (.iaload, 1) := by decide +kernel
theorem d_Ly_codePlaneBit_25 : decode b_Ly_codePlaneBit 25 = .ok (.ifCond .eq 43, 3) := by decide +kernel
theorem d_Ly_codePlaneBit_28 : decode b_Ly_codePlaneBit 28 = .ok (.aload_n 3, 1) := by decide +kernel
theorem d_Ly_codePlaneBit_29 : decode b_Ly_codePlaneBit 29 = .ok (.iconst 4, 1) := by decide +kernel
theorem d_Ly_codePlaneBit_30 : decode b_Ly_codePlaneBit 30 = .ok (.iload 5, 2) := by decide +kernel
theorem d_Ly_codePlaneBit_32 : decode b_Ly_codePlaneBit 32 = .ok (.invokevirtual 75, 3) := by decide +kernel
theorem d_Ly_codePlaneBit_35 : decode b_Ly_codePlaneBit 35 = .ok (.iload_n 1, 1) := by decide +kernel
theorem d_Ly_codePlaneBit_36 : decode b_Ly_codePlaneBit 36 = .ok (.ishl, 1) := by decide +kernel
theorem d_Ly_codePlaneBit_37 : decode b_Ly_codePlaneBit 37 = .ok (.istore 6, 2) := by decide +kernel
theorem d_Ly_codePlaneBit_39 : decode b_Ly_codePlaneBit 39 = .ok (.aload_n 0, 1) := by decide +kernel
theorem d_Ly_codePlaneBit_40 : decode b_Ly_codePlaneBit 40 = .ok (.getfield 26, 3) := by decide +kernel
theorem d_Ly_codePlaneBit_43 : decode b_Ly_codePlaneBit 43 = .ok (.iload_n 2, 1) := by decide +kernel
theorem d_Ly_codePlaneBit_44 : decode b_Ly_codePlaneBit 44 = .ok (.dup2, 1) := by decide +kernel
theorem d_Ly_codePlaneBit_45 : decode b_Ly_codePlaneBit 45 = .ok (.iaload, 1) := by decide +kernel
theorem d_Ly_codePlaneBit_46 : decode b_Ly_codePlaneBit 46 = .ok (.aload_n 0, 1) := by decide +kernel
theorem d_Ly_codePlaneBit_47 : decode b_Ly_codePlaneBit 47 = .ok (.getfield 26, 3) := by decide +kernel
theorem d_Ly_codePlaneBit_50 : decode b_Ly_codePlaneBit 50 = .ok (.iload_n 2, 1) := by decide +kernel
theorem d_Ly_codePlaneBit_51 : decode b_Ly_codePlaneBit 51 = .ok (.iaload, 1) := by decide +kernel
theorem d_Ly_codePlaneBit_52 : decode b_Ly_codePlaneBit 52 = .ok (.ifCond .ge 9, 3) := by decide +kernel
theorem d_Ly_codePlaneBit_55 : decode b_Ly_codePlaneBit 55 = .ok (.iload 6, 2) := by decide +kernel
theorem d_Ly_codePlaneBit_57 : decode b_Ly_codePlaneBit 57 = .ok (.ineg, 1) := by decide +kernel
theorem d_Ly_codePlaneBit_58 : decode b_Ly_codePlaneBit 58 = .ok (.goto 5, 3) := by decide +kernel
theorem d_Ly_codePlaneBit_61 : decode b_Ly_codePlaneBit 61 = .ok (.iload 6, 2) := by decide +kernel
theorem d_Ly_codePlaneBit_63 : decode b_Ly_codePlaneBit 63 = .ok (.iadd, 1) := by decide +kernel
theorem d_Ly_codePlaneBit_64 : decode b_Ly_codePlaneBit 64 = .ok (.iastore, 1) := by decide +kernel
theorem d_Ly_codePlaneBit_65 : decode b_Ly_codePlaneBit 65 = .ok (.goto 65, 3) := by decide +kernel
theorem d_Ly_codePlaneBit_68 : decode b_Ly_codePlaneBit 68 = .ok (.aload_n 3, 1) := by decide +kernel
theorem d_Ly_codePlaneBit_69 : decode b_Ly_codePlaneBit 69 = .ok (.aload_n 0, 1) := by decide +kernel
theorem d_Ly_codePlaneBit_70 : decode b_Ly_codePlaneBit 70 = .ok (.iload_n 2, 1) := by decide +kernel
theorem d_Ly_codePlaneBit_71 : decode b_Ly_codePlaneBit 71 = .ok (.invokevirtual 80, 3) := by decide +kernel
theorem d_Ly_codePlaneBit_74 : decode b_Ly_codePlaneBit 74 = .ok (.iload 5, 2) := by decide +kernel
theorem d_Ly_codePlaneBit_76 : decode b_Ly_codePlaneBit 76 = .ok (.invokevirtual 75, 3) := by decide +kernel
theorem d_Ly_codePlaneBit_79 : decode b_Ly_codePlaneBit 79 = .ok (.iconst 1, 1) := by decide +kernel
theorem d_Ly_codePlaneBit_80 : decode b_Ly_codePlaneBit 80 = .ok (.if_icmp .ne 50, 3) := by decide +kernel
theorem d_Ly_codePlaneBit_83 : decode b_Ly_codePlaneBit 83 = .ok (.aload_n 3, 1) := by decide +kernel
theorem d_Ly_codePlaneBit_84 : decode b_Ly_codePlaneBit 84 = .ok (.iconst 3, 1) := by decide +kernel
theorem d_Ly_codePlaneBit_85 : decode b_Ly_codePlaneBit 85 = .ok (.iload 4, 2) := by decide +kernel
theorem d_Ly_codePlaneBit_87 : decode b_Ly_codePlaneBit 87 = .ok (.ifCond .ge 7, 3) := by decide +kernel
theorem d_Ly_codePlaneBit_90 : decode b_Ly_codePlaneBit 90 = .ok (.iconst 1, 1) := by decide +kernel
theorem d_Ly_codePlaneBit_91 : decode b_Ly_codePlaneBit 91 = .ok (.goto 4, 3) := by decide +kernel
theorem d_Ly_codePlaneBit_94 : decode b_Ly_codePlaneBit 94 = .ok (.iconst 0, 1) := by decide +kernel
theorem d_Ly_codePlaneBit_95 : decode b_Ly_codePlaneBit 95 = .ok (.invokevirtual 75, 3) := by decide +kernel
theorem d_Ly_codePlaneBit_98 : decode b_Ly_codePlaneBit 98 = .ok (.iconst 1, 1) := by decide +kernel
theorem d_Ly_codePlaneBit_99 : decode b_Ly_codePlaneBit 99 = .ok (.if_icmp .ne 7, 3) := by decide +kernel
theorem d_Ly_codePlaneBit_102 : decode b_Ly_codePlaneBit 102 = .ok (.iconst 1, 1) := by decide +kernel
theorem d_Ly_codePlaneBit_103 : decode b_Ly_codePlaneBit 103 = .ok (.goto 4, 3) := by decide +kernel
theorem d_Ly_codePlaneBit_106 : decode b_Ly_codePlaneBit 106 = .ok (.iconst 0, 1) := by decide +kernel
theorem d_Ly_codePlaneBit_107 : decode b_Ly_codePlaneBit 107 = .ok (.istore 6, 2) := by decide +kernel
theorem d_Ly_codePlaneBit_109 : decode b_Ly_codePlaneBit 109 = .ok (.aload_n 0, 1) := by decide +kernel
theorem d_Ly_codePlaneBit_110 : decode b_Ly_codePlaneBit 110 = .ok (.getfield 26, 3) := by decide +kernel
theorem d_Ly_codePlaneBit_113 : decode b_Ly_codePlaneBit 113 = .ok (.iload_n 2, 1) := by decide +kernel
theorem d_Ly_codePlaneBit_114 : decode b_Ly_codePlaneBit 114 = .ok (.iload 6, 2) := by decide +kernel
theorem d_Ly_codePlaneBit_116 : decode b_Ly_codePlaneBit 116 = .ok (.ifCond .eq 10, 3) := by decide +kernel
theorem d_Ly_codePlaneBit_119 : decode b_Ly_codePlaneBit 119 = .ok (.iconst 1, 1) := by decide +kernel
theorem d_Ly_codePlaneBit_120 : decode b_Ly_codePlaneBit 120 = .ok (.iload_n 1, 1) := by decide +kernel
theorem d_Ly_codePlaneBit_121 : decode b_Ly_codePlaneBit 121 = .ok (.ishl, 1) := by decide +kernel
theorem d_Ly_codePlaneBit_122 : decode b_Ly_codePlaneBit 122 = .ok (.ineg, 1) := by decide +kernel
theorem d_Ly_codePlaneBit_123 : decode b_Ly_codePlaneBit 123 = .ok (.goto 6, 3) := by decide +kernel
theorem d_Ly_codePlaneBit_126 : decode b_Ly_codePlaneBit 126 = .ok (.iconst 1, 1) := by decide +kernel
theorem d_Ly_codePlaneBit_127 : decode b_Ly_codePlaneBit 127 = .ok (.iload_n 1, 1) := by decide +kernel
theorem d_Ly_codePlaneBit_128 : decode b_Ly_codePlaneBit 128 = .ok (.ishl, 1) := by decide +kernel
theorem d_Ly_codePlaneBit_129 : decode b_Ly_codePlaneBit 129 = .ok (.iastore, 1) := by decide +kernel
theorem d_Ly_codePlaneBit_130 : decode b_Ly_codePlaneBit 130 = .ok (.return_, 1) := by decide +kernel
theorem d_Ly_begunNeighbours_0 : decode b_Ly_begunNeighbours 0 = .ok (.iload_n 1, 1) := by decide +kernel
theorem d_Ly_begunNeighbours_1 : decode b_Ly_begunNeighbours 1 = .ok (.aload_n 0, 1) := by decide +kernel
theorem d_Ly_begunNeighbours_2 : decode b_Ly_begunNeighbours 2 = .ok (.getfield 15, 3) := by decide +kernel
theorem d_Ly_begunNeighbours_5 : decode b_Ly_begunNeighbours 5 = .ok (.irem, 1) := by decide +kernel
theorem d_Ly_begunNeighbours_6 : decode b_Ly_begunNeighbours 6 = .ok (.ifCond .le 18, 3) := by decide +kernel
theorem d_Ly_begunNeighbours_9 : decode b_Ly_begunNeighbours 9 = .ok (.aload_n 0, 1) := by decide +kernel
theorem d_Ly_begunNeighbours_10 : decode b_Ly_begunNeighbours 10 = .ok (.getfield 26, 3) := by decide +kernel
theorem d_Ly_begunNeighbours_13 : decode b_Ly_begunNeighbours 13 = .ok (.iload_n 1, 1) := by decide +kernel
theorem d_Ly_begunNeighbours_14 : decode b_Ly_begunNeighbours 14 = .ok (.iconst 1, 1) := by decide +kernel
theorem d_Ly_begunNeighbours_15 : decode b_Ly_begunNeighbours 15 = .ok (.isub, 1) := by decide +kernel
theorem d_Ly_begunNeighbours_16 : decode b_Ly_begunNeighbours 16 = .ok (.iaload, 1) := by decide +kernel
theorem d_Ly_begunNeighbours_17 : decode b_Ly_begunNeighbours 17 = .ok (.ifCond .eq 7, 3) := by decide +kernel
theorem d_Ly_begunNeighbours_20 : decode b_Ly_begunNeighbours 20 = .ok (.iconst 1, 1) := by decide +kernel
theorem d_Ly_begunNeighbours_21 : decode b_Ly_begunNeighbours 21 = .ok (.goto 4, 3) := by decide +kernel
theorem d_Ly_begunNeighbours_24 : decode b_Ly_begunNeighbours 24 = .ok (.iconst 0, 1) := by decide +kernel
theorem d_Ly_begunNeighbours_25 : decode b_Ly_begunNeighbours 25 = .ok (.istore_n 2, 1) := by decide +kernel
theorem d_Ly_begunNeighbours_26 : decode b_Ly_begunNeighbours 26 = .ok (.iload_n 1, 1) := by decide +kernel
theorem d_Ly_begunNeighbours_27 : decode b_Ly_begunNeighbours 27 = .ok (.aload_n 0, 1) := by decide +kernel
theorem d_Ly_begunNeighbours_28 : decode b_Ly_begunNeighbours 28 = .ok (.getfield 15, 3) := by decide +kernel
theorem d_Ly_begunNeighbours_31 : decode b_Ly_begunNeighbours 31 = .ok (.if_icmp .lt 21, 3) := by decide +kernel
theorem d_Ly_begunNeighbours_34 : decode b_Ly_begunNeighbours 34 = .ok (.aload_n 0, 1) := by decide +kernel
theorem d_Ly_begunNeighbours_35 : decode b_Ly_begunNeighbours 35 = .ok (.getfield 26, 3) := by decide +kernel
theorem d_Ly_begunNeighbours_38 : decode b_Ly_begunNeighbours 38 = .ok (.iload_n 1, 1) := by decide +kernel
theorem d_Ly_begunNeighbours_39 : decode b_Ly_begunNeighbours 39 = .ok (.aload_n 0, 1) := by decide +kernel
theorem d_Ly_begunNeighbours_40 : decode b_Ly_begunNeighbours 40 = .ok (.getfield 15, 3) := by decide +kernel
theorem d_Ly_begunNeighbours_43 : decode b_Ly_begunNeighbours 43 = .ok (.isub, 1) := by decide +kernel
theorem d_Ly_begunNeighbours_44 : decode b_Ly_begunNeighbours 44 = .ok (.iaload, 1) := by decide +kernel
theorem d_Ly_begunNeighbours_45 : decode b_Ly_begunNeighbours 45 = .ok (.ifCond .eq 7, 3) := by decide +kernel
theorem d_Ly_begunNeighbours_48 : decode b_Ly_begunNeighbours 48 = .ok (.iconst 1, 1) := by decide +kernel
theorem d_Ly_begunNeighbours_49 : decode b_Ly_begunNeighbours 49 = .ok (.goto 4, 3) := by decide +kernel
theorem d_Ly_begunNeighbours_52 : decode b_Ly_begunNeighbours 52 = .ok (.iconst 0, 1) := by decide +kernel
theorem d_Ly_begunNeighbours_53 : decode b_Ly_begunNeighbours 53 = .ok (.istore_n 3, 1) := by decide +kernel
theorem d_Ly_begunNeighbours_54 : decode b_Ly_begunNeighbours 54 = .ok (.iload_n 2, 1) := by decide +kernel
theorem d_Ly_begunNeighbours_55 : decode b_Ly_begunNeighbours 55 = .ok (.iload_n 3, 1) := by decide +kernel
theorem d_Ly_begunNeighbours_56 : decode b_Ly_begunNeighbours 56 = .ok (.iadd, 1) := by decide +kernel
theorem d_Ly_begunNeighbours_57 : decode b_Ly_begunNeighbours 57 = .ok (.ireturn, 1) := by decide +kernel
theorem d_Oct_init_0 : decode b_Oct_init 0 = .ok (.aload_n 0, 1) := by decide +kernel
theorem d_Oct_init_1 : decode b_Oct_init 1 = .ok (.invokespecial 3, 3) := by decide +kernel
theorem d_Oct_init_4 : decode b_Oct_init 4 = .ok (.aload_n 0, 1) := by decide +kernel
theorem d_Oct_init_5 : decode b_Oct_init 5 = .ok (.sipush 1200, 3) := by decide +kernel
theorem d_Oct_init_8 : decode b_Oct_init 8 = .ok (.newarray .int, 2) := by decide +kernel
theorem d_Oct_init_10 : decode b_Oct_init 10 = .ok (.putfield 9, 3) := by decide +kernel
theorem d_Oct_init_13 : decode b_Oct_init 13 = .ok (.aload_n 0, 1) := by decide +kernel
theorem d_Oct_init_14 : decode b_Oct_init 14 = .ok (.iconst 0, 1) := by decide +kernel
theorem d_Oct_init_15 : decode b_Oct_init 15 = .ok (.putfield 15, 3) := by decide +kernel
theorem d_Oct_init_18 : decode b_Oct_init 18 = .ok (.return_, 1) := by decide +kernel
theorem d_Oct_at_0 : decode b_Oct_at 0 = .ok (.iload_n 1, 1) := by decide +kernel
theorem d_Oct_at_1 : decode b_Oct_at 1 = .ok (.ifCond .lt 20, 3) := by decide +kernel
theorem d_Oct_at_4 : decode b_Oct_at 4 = .ok (.iload_n 1, 1) := by decide +kernel
theorem d_Oct_at_5 : decode b_Oct_at 5 = .ok (.aload_n 0, 1) := by decide +kernel
theorem d_Oct_at_6 : decode b_Oct_at 6 = .ok (.getfield 15, 3) := by decide +kernel
theorem d_Oct_at_9 : decode b_Oct_at 9 = .ok (.if_icmp .ge 12, 3) := by decide +kernel
theorem d_Oct_at_12 : decode b_Oct_at 12 = .ok (.aload_n 0, 1) := by decide +kernel
theorem d_Oct_at_13 : decode b_Oct_at 13 = .ok (.getfield 9, 3) := by decide +kernel
theorem d_Oct_at_16 : decode b_Oct_at 16 = .ok (.iload_n 1, 1) := by decide +kernel
theorem d_Oct_at_17 : decode b_Oct_at 17 = .ok (.iaload, 1) := by decide +kernel
theorem d_Oct_at_18 : decode b_Oct_at 18 = .ok (.goto 4, 3) := by decide +kernel
theorem d_Oct_at_21 : decode b_Oct_at 21 = .ok (.iconst (-1), 1) := by decide +kernel
theorem d_Oct_at_22 : decode b_Oct_at 22 = .ok (.ireturn, 1) := by decide +kernel
theorem d_Oct_set_0 : decode b_Oct_set 0 = .ok (.iload_n 1, 1) := by decide +kernel
theorem d_Oct_set_1 : decode b_Oct_set 1 = .ok (.ifCond .lt 39, 3) := by decide +kernel
theorem d_Oct_set_4 : decode b_Oct_set 4 = .ok (.iload_n 1, 1) := by decide +kernel
theorem d_Oct_set_5 : decode b_Oct_set 5 = .ok (.aload_n 0, 1) := by decide +kernel
theorem d_Oct_set_6 : decode b_Oct_set 6 = .ok (.getfield 15, 3) := by decide +kernel
theorem d_Oct_set_9 : decode b_Oct_set 9 = .ok (.if_icmp .gt 31, 3) := by decide +kernel
theorem d_Oct_set_12 : decode b_Oct_set 12 = .ok (.iload_n 1, 1) := by decide +kernel
theorem d_Oct_set_13 : decode b_Oct_set 13 = .ok (.sipush 1200, 3) := by decide +kernel
theorem d_Oct_set_16 : decode b_Oct_set 16 = .ok (.if_icmp .ge 24, 3) := by decide +kernel
theorem d_Oct_set_19 : decode b_Oct_set 19 = .ok (.aload_n 0, 1) := by decide +kernel
theorem d_Oct_set_20 : decode b_Oct_set 20 = .ok (.getfield 9, 3) := by decide +kernel
theorem d_Oct_set_23 : decode b_Oct_set 23 = .ok (.iload_n 1, 1) := by decide +kernel
theorem d_Oct_set_24 : decode b_Oct_set 24 = .ok (.iload_n 2, 1) := by decide +kernel
theorem d_Oct_set_25 : decode b_Oct_set 25 = .ok (.iastore, 1) := by decide +kernel
theorem d_Oct_set_26 : decode b_Oct_set 26 = .ok (.aload_n 0, 1) := by decide +kernel
theorem d_Oct_set_27 : decode b_Oct_set 27 = .ok (.aload_n 0, 1) := by decide +kernel
theorem d_Oct_set_28 : decode b_Oct_set 28 = .ok (.getfield 15, 3) := by decide +kernel
theorem d_Oct_set_31 : decode b_Oct_set 31 = .ok (.iload_n 1, 1) := by decide +kernel
theorem d_Oct_set_32 : decode b_Oct_set 32 = .ok (.iconst 1, 1) := by decide +kernel
theorem d_Oct_set_33 : decode b_Oct_set 33 = .ok (.iadd, 1) := by decide +kernel
theorem d_Oct_set_34 : decode b_Oct_set 34 = .ok (.invokestatic 19, 3) := by decide +kernel
theorem d_Oct_set_37 : decode b_Oct_set 37 = .ok (.putfield 15, 3) := by decide +kernel
theorem d_Oct_set_40 : decode b_Oct_set 40 = .ok (.return_, 1) := by decide +kernel
theorem d_Oct_append_0 : decode b_Oct_append 0 = .ok (.aload_n 0, 1) := by decide +kernel
theorem d_Oct_append_1 : decode b_Oct_append 1 = .ok (.aload_n 0, 1) := by decide +kernel
theorem d_Oct_append_2 : decode b_Oct_append 2 = .ok (.getfield 15, 3) := by decide +kernel
theorem d_Oct_append_5 : decode b_Oct_append 5 = .ok (.iload_n 1, 1) := by decide +kernel
theorem d_Oct_append_6 : decode b_Oct_append 6 = .ok (.invokevirtual 25, 3) := by decide +kernel
theorem d_Oct_append_9 : decode b_Oct_append 9 = .ok (.return_, 1) := by decide +kernel
theorem d_Oct_keep_0 : decode b_Oct_keep 0 = .ok (.iload_n 1, 1) := by decide +kernel
theorem d_Oct_keep_1 : decode b_Oct_keep 1 = .ok (.ifCond .lt 39, 3) := by decide +kernel
theorem d_Oct_keep_4 : decode b_Oct_keep 4 = .ok (.iload_n 1, 1) := by decide +kernel
theorem d_Oct_keep_5 : decode b_Oct_keep 5 = .ok (.aload_n 0, 1) := by decide +kernel
theorem d_Oct_keep_6 : decode b_Oct_keep 6 = .ok (.getfield 15, 3) := by decide +kernel
theorem d_Oct_keep_9 : decode b_Oct_keep 9 = .ok (.if_icmp .gt 31, 3) := by decide +kernel
theorem d_Oct_keep_12 : decode b_Oct_keep 12 = .ok (.iload_n 1, 1) := by decide +kernel
theorem d_Oct_keep_13 : decode b_Oct_keep 13 = .ok (.istore_n 2, 1) := by decide +kernel
theorem d_Oct_keep_14 : decode b_Oct_keep 14 = .ok (.iload_n 2, 1) := by decide +kernel
theorem d_Oct_keep_15 : decode b_Oct_keep 15 = .ok (.aload_n 0, 1) := by decide +kernel
theorem d_Oct_keep_16 : decode b_Oct_keep 16 = .ok (.getfield 15, 3) := by decide +kernel
theorem d_Oct_keep_19 : decode b_Oct_keep 19 = .ok (.if_icmp .ge 16, 3) := by decide +kernel
theorem d_Oct_keep_22 : decode b_Oct_keep 22 = .ok (.aload_n 0, 1) := by decide +kernel
theorem d_Oct_keep_23 : decode b_Oct_keep 23 = .ok (.getfield 9, 3) := by decide +kernel
theorem d_Oct_keep_26 : decode b_Oct_keep 26 = .ok (.iload_n 2, 1) := by decide +kernel
theorem d_Oct_keep_27 : decode b_Oct_keep 27 = .ok (.iconst 0, 1) := by decide +kernel
theorem d_Oct_keep_28 : decode b_Oct_keep 28 = .ok (.iastore, 1) := by decide +kernel
theorem d_Oct_keep_29 : decode b_Oct_keep 29 = .ok (.iinc 2 1, 3) := by decide +kernel
theorem d_Oct_keep_32 : decode b_Oct_keep 32 = .ok (.goto (-18), 3) := by decide +kernel
theorem d_Oct_keep_35 : decode b_Oct_keep 35 = .ok (.aload_n 0, 1) := by decide +kernel
theorem d_Oct_keep_36 : decode b_Oct_keep 36 = .ok (.iload_n 1, 1) := by decide +kernel
theorem d_Oct_keep_37 : decode b_Oct_keep 37 = .ok (.putfield 15, 3) := by decide +kernel
theorem d_Oct_keep_40 : decode b_Oct_keep 40 = .ok (.return_, 1) := by decide +kernel
theorem d_Oct_take_0 : decode b_Oct_take 0 = .ok (.aload_n 0, 1) := by decide +kernel
theorem d_Oct_take_1 : decode b_Oct_take 1 = .ok (.sipush 1200, 3) := by decide +kernel
theorem d_Oct_take_4 : decode b_Oct_take 4 = .ok (.aload_n 0, 1) := by decide +kernel
theorem d_Oct_take_5 : decode b_Oct_take 5 = .ok (.getfield 15, 3) := by decide +kernel
theorem d_Oct_take_8 : decode b_Oct_take 8 = .ok (.iload_n 1, 1) := by decide +kernel
theorem d_Oct_take_9 : decode b_Oct_take 9 = .ok (.iadd, 1) := by decide +kernel
theorem d_Oct_take_10 : decode b_Oct_take 10 = .ok (.invokestatic 29, 3) := by decide +kernel
theorem d_Oct_take_13 : decode b_Oct_take 13 = .ok (.putfield 15, 3) := by decide +kernel
theorem d_Oct_take_16 : decode b_Oct_take 16 = .ok (.return_, 1) := by decide +kernel
theorem d_Oct_openChunk_0 : decode b_Oct_openChunk 0 = .ok (.aload_n 0, 1) := by decide +kernel
theorem d_Oct_openChunk_1 : decode b_Oct_openChunk 1 = .ok (.iload_n 1, 1) := by decide +kernel
theorem d_Oct_openChunk_2 : decode b_Oct_openChunk 2 = .ok (.invokevirtual 32, 3) := by decide +kernel
theorem d_Oct_openChunk_5 : decode b_Oct_openChunk 5 = .ok (.aload_n 0, 1) := by decide +kernel
theorem d_Oct_openChunk_6 : decode b_Oct_openChunk 6 = .ok (.iconst 0, 1) := by decide +kernel
theorem d_Oct_openChunk_7 : decode b_Oct_openChunk 7 = .ok (.invokevirtual 32, 3) := by decide +kernel
theorem d_Oct_openChunk_10 : decode b_Oct_openChunk 10 = .ok (.aload_n 0, 1) := by decide +kernel
theorem d_Oct_openChunk_11 : decode b_Oct_openChunk 11 = .ok (.iconst 0, 1) := by decide +kernel
theorem d_Oct_openChunk_12 : decode b_Oct_openChunk 12 = .ok (.invokevirtual 32, 3) := by decide +kernel
theorem d_Oct_openChunk_15 : decode b_Oct_openChunk 15 = .ok (.aload_n 0, 1) := by decide +kernel
theorem d_Oct_openChunk_16 : decode b_Oct_openChunk 16 = .ok (.getfield 15, 3) := by decide +kernel
theorem d_Oct_openChunk_19 : decode b_Oct_openChunk 19 = .ok (.ireturn, 1) := by decide +kernel
theorem d_Oct_closeChunk_0 : decode b_Oct_closeChunk 0 = .ok (.aload_n 0, 1) := by decide +kernel
theorem d_Oct_closeChunk_1 : decode b_Oct_closeChunk 1 = .ok (.getfield 15, 3) := by decide +kernel
theorem d_Oct_closeChunk_4 : decode b_Oct_closeChunk 4 = .ok (.iload_n 1, 1) := by decide +kernel
theorem d_Oct_closeChunk_5 : decode b_Oct_closeChunk 5 = .ok (.isub, 1) := by decide +kernel
theorem d_Oct_closeChunk_6 : decode b_Oct_closeChunk 6 = .ok (.istore_n 2, 1) := by decide +kernel
theorem d_Oct_closeChunk_7 : decode b_Oct_closeChunk 7 = .ok (.aload_n 0, 1) := by decide +kernel
theorem d_Oct_closeChunk_8 : decode b_Oct_closeChunk 8 = .ok (.iload_n 1, 1) := by decide +kernel
theorem d_Oct_closeChunk_9 : decode b_Oct_closeChunk 9 = .ok (.iconst 2, 1) := by decide +kernel
theorem d_Oct_closeChunk_10 : decode b_Oct_closeChunk 10 = .ok (.isub, 1) := by decide +kernel
theorem d_Oct_closeChunk_11 : decode b_Oct_closeChunk 11 = .ok (.iload_n 2, 1) := by decide +kernel
theorem d_Oct_closeChunk_12 : decode b_Oct_closeChunk 12 = .ok (.sipush 256, 3) := by decide +kernel
theorem d_Oct_closeChunk_15 : decode b_Oct_closeChunk 15 = .ok (.idiv, 1) := by decide +kernel
theorem d_Oct_closeChunk_16 : decode b_Oct_closeChunk 16 = .ok (.invokevirtual 25, 3) := by decide +kernel
theorem d_Oct_closeChunk_19 : decode b_Oct_closeChunk 19 = .ok (.aload_n 0, 1) := by decide +kernel
theorem d_Oct_closeChunk_20 : decode b_Oct_closeChunk 20 = .ok (.iload_n 1, 1) := by decide +kernel
theorem d_Oct_closeChunk_21 : decode b_Oct_closeChunk 21 = .ok (.iconst 1, 1) := by decide +kernel
theorem d_Oct_closeChunk_22 : decode b_Oct_closeChunk 22 = .ok (.isub, 1) := by decide +kernel
theorem d_Oct_closeChunk_23 : decode b_Oct_closeChunk 23 = .ok (.iload_n 2, 1) := by decide +kernel
theorem d_Oct_closeChunk_24 : decode b_Oct_closeChunk 24 = .ok (.sipush 256, 3) := by decide +kernel
theorem d_Oct_closeChunk_27 : decode b_Oct_closeChunk 27 = .ok (.irem, 1) := by decide +kernel
theorem d_Oct_closeChunk_28 : decode b_Oct_closeChunk 28 = .ok (.invokevirtual 25, 3) := by decide +kernel
theorem d_Oct_closeChunk_31 : decode b_Oct_closeChunk 31 = .ok (.return_, 1) := by decide +kernel
theorem d_Oct_chunkSize_0 : decode b_Oct_chunkSize 0 = .ok (.aload_n 0, 1) := by decide +kernel
theorem d_Oct_chunkSize_1 : decode b_Oct_chunkSize 1 = .ok (.getfield 15, 3) := by decide +kernel
theorem d_Oct_chunkSize_4 : decode b_Oct_chunkSize 4 = .ok (.iload_n 1, 1) := by decide +kernel
theorem d_Oct_chunkSize_5 : decode b_Oct_chunkSize 5 = .ok (.isub, 1) := by decide +kernel
theorem d_Oct_chunkSize_6 : decode b_Oct_chunkSize 6 = .ok (.iconst 3, 1) := by decide +kernel
theorem d_Oct_chunkSize_7 : decode b_Oct_chunkSize 7 = .ok (.if_icmp .ge 5, 3) := by decide +kernel
theorem d_Oct_chunkSize_10 : decode b_Oct_chunkSize 10 = .ok (.iconst (-1), 1) := by decide +kernel
theorem d_Oct_chunkSize_11 : decode b_Oct_chunkSize 11 = .ok (.ireturn, 1) := by decide +kernel
theorem d_Oct_chunkSize_12 : decode b_Oct_chunkSize 12 = .ok (.sipush 256, 3) := by decide +kernel
theorem d_Oct_chunkSize_15 : decode b_Oct_chunkSize 15 = .ok (.aload_n 0, 1) := by decide +kernel
theorem d_Oct_chunkSize_16 : decode b_Oct_chunkSize 16 = .ok (.iload_n 1, 1) := by decide +kernel
theorem d_Oct_chunkSize_17 : decode b_Oct_chunkSize 17 = .ok (.iconst 1, 1) := by decide +kernel
theorem d_Oct_chunkSize_18 : decode b_Oct_chunkSize 18 = .ok (.iadd, 1) := by decide +kernel
theorem d_Oct_chunkSize_19 : decode b_Oct_chunkSize 19 = .ok (.invokevirtual 36, 3) := by decide +kernel
theorem d_Oct_chunkSize_22 : decode b_Oct_chunkSize 22 = .ok (.imul, 1) := by decide +kernel
theorem d_Oct_chunkSize_23 : decode b_Oct_chunkSize 23 = .ok (.aload_n 0, 1) := by decide +kernel
theorem d_Oct_chunkSize_24 : decode b_Oct_chunkSize 24 = .ok (.iload_n 1, 1) := by decide +kernel
theorem d_Oct_chunkSize_25 : decode b_Oct_chunkSize 25 = .ok (.iconst 2, 1) := by decide +kernel
theorem d_Oct_chunkSize_26 : decode b_Oct_chunkSize 26 = .ok (.iadd, 1) := by decide +kernel
theorem d_Oct_chunkSize_27 : decode b_Oct_chunkSize 27 = .ok (.invokevirtual 36, 3) := by decide +kernel
theorem d_Oct_chunkSize_30 : decode b_Oct_chunkSize 30 = .ok (.iadd, 1) := by decide +kernel
theorem d_Oct_chunkSize_31 : decode b_Oct_chunkSize 31 = .ok (.istore_n 2, 1) := by decide +kernel
theorem d_Oct_chunkSize_32 : decode b_Oct_chunkSize 32 = .ok (.iload_n 2, 1) := by decide +kernel
theorem d_Oct_chunkSize_33 : decode b_Oct_chunkSize 33 = .ok (.aload_n 0, 1) := by decide +kernel
theorem d_Oct_chunkSize_34 : decode b_Oct_chunkSize 34 = .ok (.getfield 15, 3) := by decide +kernel
theorem d_Oct_chunkSize_37 : decode b_Oct_chunkSize 37 = .ok (.iload_n 1, 1) := by decide +kernel
theorem d_Oct_chunkSize_38 : decode b_Oct_chunkSize 38 = .ok (.isub, 1) := by decide +kernel
theorem d_Oct_chunkSize_39 : decode b_Oct_chunkSize 39 = .ok (.iconst 3, 1) := by decide +kernel
theorem d_Oct_chunkSize_40 : decode b_Oct_chunkSize 40 = .ok (.isub, 1) := by decide +kernel
theorem d_Oct_chunkSize_41 : decode b_Oct_chunkSize 41 = .ok (.if_icmp .le 7, 3) := by decide +kernel
theorem d_Oct_chunkSize_44 : decode b_Oct_chunkSize 44 = .ok (.iconst (-1), 1) := by decide +kernel
theorem d_Oct_chunkSize_45 : decode b_Oct_chunkSize 45 = .ok (.goto 4, 3) := by decide +kernel
theorem d_Oct_chunkSize_48 : decode b_Oct_chunkSize 48 = .ok (.iload_n 2, 1) := by decide +kernel
theorem d_Oct_chunkSize_49 : decode b_Oct_chunkSize 49 = .ok (.ireturn, 1) := by decide +kernel
theorem d_Pg_init_0 : decode b_Pg_init 0 = .ok (.aload_n 0, 1) := by decide +kernel
theorem d_Pg_init_1 : decode b_Pg_init 1 = .ok (.invokespecial 3, 3) := by decide +kernel
theorem d_Pg_init_4 : decode b_Pg_init 4 = .ok (.aload_n 0, 1) := by decide +kernel
theorem d_Pg_init_5 : decode b_Pg_init 5 = .ok (.bipush 8, 2) := by decide +kernel
theorem d_Pg_init_7 : decode b_Pg_init 7 = .ok (.anewarray 9, 3) := by decide +kernel
theorem d_Pg_init_10 : decode b_Pg_init 10 = .ok (.putfield 11, 3) := by decide +kernel
theorem d_Pg_init_13 : decode b_Pg_init 13 = .ok (.aload_n 0, 1) := by decide +kernel
theorem d_Pg_init_14 : decode b_Pg_init 14 = .ok (.iconst 0, 1) := by decide +kernel
theorem d_Pg_init_15 : decode b_Pg_init 15 = .ok (.putfield 17, 3) := by decide +kernel
theorem d_Pg_init_18 : decode b_Pg_init 18 = .ok (.aload_n 0, 1) := by decide +kernel
theorem d_Pg_init_19 : decode b_Pg_init 19 = .ok (.bipush 20, 2) := by decide +kernel
theorem d_Pg_init_21 : decode b_Pg_init 21 = .ok (.newarray .int, 2) := by decide +kernel
theorem d_Pg_init_23 : decode b_Pg_init 23 = .ok (.putfield 21, 3) := by decide +kernel
theorem d_Pg_init_26 : decode b_Pg_init 26 = .ok (.aload_n 0, 1) := by decide +kernel
theorem d_Pg_init_27 : decode b_Pg_init 27 = .ok (.bipush 20, 2) := by decide +kernel
theorem d_Pg_init_29 : decode b_Pg_init 29 = .ok (.newarray .int, 2) := by decide +kernel
theorem d_Pg_init_31 : decode b_Pg_init 31 = .ok (.putfield 25, 3) := by decide +kernel
theorem d_Pg_init_34 : decode b_Pg_init 34 = .ok (.aload_n 0, 1) := by decide +kernel
theorem d_Pg_init_35 : decode b_Pg_init 35 = .ok (.iconst 0, 1) := by decide +kernel
theorem d_Pg_init_36 : decode b_Pg_init 36 = .ok (.putfield 28, 3) := by decide +kernel
theorem d_Pg_init_39 : decode b_Pg_init 39 = .ok (.aload_n 0, 1) := by decide +kernel
theorem d_Pg_init_40 : decode b_Pg_init 40 = .ok (.new 31, 3) := by decide +kernel
theorem d_Pg_init_43 : decode b_Pg_init 43 = .ok (.dup, 1) := by decide +kernel
theorem d_Pg_init_44 : decode b_Pg_init 44 = .ok (.bipush 8, 2) := by decide +kernel
theorem d_Pg_init_46 : decode b_Pg_init 46 = .ok (.invokespecial 33, 3) := by decide +kernel
theorem d_Pg_init_49 : decode b_Pg_init 49 = .ok (.putfield 36, 3) := by decide +kernel
theorem d_Pg_init_52 : decode b_Pg_init 52 = .ok (.aload_n 0, 1) := by decide +kernel
theorem d_Pg_init_53 : decode b_Pg_init 53 = .ok (.new 31, 3) := by decide +kernel
theorem d_Pg_init_56 : decode b_Pg_init 56 = .ok (.dup, 1) := by decide +kernel
theorem d_Pg_init_57 : decode b_Pg_init 57 = .ok (.iconst 4, 1) := by decide +kernel
theorem d_Pg_init_58 : decode b_Pg_init 58 = .ok (.invokespecial 33, 3) := by decide +kernel
theorem d_Pg_init_61 : decode b_Pg_init 61 = .ok (.putfield 40, 3) := by decide +kernel
theorem d_Pg_init_64 : decode b_Pg_init 64 = .ok (.iconst 0, 1) := by decide +kernel
theorem d_Pg_init_65 : decode b_Pg_init 65 = .ok (.istore_n 1, 1) := by decide +kernel
theorem d_Pg_init_66 : decode b_Pg_init 66 = .ok (.iload_n 1, 1) := by decide +kernel
theorem d_Pg_init_67 : decode b_Pg_init 67 = .ok (.bipush 8, 2) := by decide +kernel
theorem d_Pg_init_69 : decode b_Pg_init 69 = .ok (.if_icmp .ge 22, 3) := by decide +kernel
theorem d_Pg_init_72 : decode b_Pg_init 72 = .ok (.aload_n 0, 1) := by decide +kernel
theorem d_Pg_init_73 : decode b_Pg_init 73 = .ok (.getfield 11, 3) := by decide +kernel
theorem d_Pg_init_76 : decode b_Pg_init 76 = .ok (.iload_n 1, 1) := by decide +kernel
theorem d_Pg_init_77 : decode b_Pg_init 77 = .ok (.new 9, 3) := by decide +kernel
theorem d_Pg_init_80 : decode b_Pg_init 80 = .ok (.dup, 1) := by decide +kernel
theorem d_Pg_init_81 : decode b_Pg_init 81 = .ok (.invokespecial 43, 3) := by decide +kernel
theorem d_Pg_init_84 : decode b_Pg_init 84 = .ok (.aastore, 1) := by decide +kernel
theorem d_Pg_init_85 : decode b_Pg_init 85 = .ok (.iinc 1 1, 3) := by decide +kernel
theorem d_Pg_init_88 : decode b_Pg_init 88 = .ok (.goto (-22), 3) := by decide +kernel
theorem d_Pg_init_91 : decode b_Pg_init 91 = .ok (.return_, 1) := by decide +kernel
theorem d_Pg_makeEmpty_0 : decode b_Pg_makeEmpty 0 = .ok (.aload_n 0, 1) := by decide +kernel
theorem d_Pg_makeEmpty_1 : decode b_Pg_makeEmpty 1 = .ok (.iconst 0, 1) := by decide +kernel
theorem d_Pg_makeEmpty_2 : decode b_Pg_makeEmpty 2 = .ok (.putfield 17, 3) := by decide +kernel
theorem d_Pg_makeEmpty_5 : decode b_Pg_makeEmpty 5 = .ok (.aload_n 0, 1) := by decide +kernel
theorem d_Pg_makeEmpty_6 : decode b_Pg_makeEmpty 6 = .ok (.iconst 0, 1) := by decide +kernel
theorem d_Pg_makeEmpty_7 : decode b_Pg_makeEmpty 7 = .ok (.putfield 28, 3) := by decide +kernel
theorem d_Pg_makeEmpty_10 : decode b_Pg_makeEmpty 10 = .ok (.aload_n 0, 1) := by decide +kernel
theorem d_Pg_makeEmpty_11 : decode b_Pg_makeEmpty 11 = .ok (.getfield 36, 3) := by decide +kernel
theorem d_Pg_makeEmpty_14 : decode b_Pg_makeEmpty 14 = .ok (.invokevirtual 44, 3) := by decide +kernel
theorem d_Pg_makeEmpty_17 : decode b_Pg_makeEmpty 17 = .ok (.aload_n 0, 1) := by decide +kernel
theorem d_Pg_makeEmpty_18 : decode b_Pg_makeEmpty 18 = .ok (.getfield 40, 3) := by decide +kernel
theorem d_Pg_makeEmpty_21 : decode b_Pg_makeEmpty 21 = .ok (.invokevirtual 44, 3) := by decide +kernel
theorem d_Pg_makeEmpty_24 : decode b_Pg_makeEmpty 24 = .ok (.return_, 1) := by decide +kernel
theorem d_Pg_hasShape_0 : decode b_Pg_hasShape 0 = .ok (.iload_n 1, 1) := by decide +kernel
theorem d_Pg_hasShape_1 : decode b_Pg_hasShape 1 = .ok (.ifCond .lt 15, 3) := by decide +kernel
theorem d_Pg_hasShape_4 : decode b_Pg_hasShape 4 = .ok (.iload_n 1, 1) := by decide +kernel
theorem d_Pg_hasShape_5 : decode b_Pg_hasShape 5 = .ok (.aload_n 0, 1) := by decide +kernel
theorem d_Pg_hasShape_6 : decode b_Pg_hasShape 6 = .ok (.getfield 17, 3) := by decide +kernel
theorem d_Pg_hasShape_9 : decode b_Pg_hasShape 9 = .ok (.if_icmp .ge 7, 3) := by decide +kernel
theorem d_Pg_hasShape_12 : decode b_Pg_hasShape 12 = .ok (.iconst 1, 1) := by decide +kernel
theorem d_Pg_hasShape_13 : decode b_Pg_hasShape 13 = .ok (.goto 4, 3) := by decide +kernel
theorem d_Pg_hasShape_16 : decode b_Pg_hasShape 16 = .ok (.iconst 0, 1) := by decide +kernel
theorem d_Pg_hasShape_17 : decode b_Pg_hasShape 17 = .ok (.ireturn, 1) := by decide +kernel
theorem d_Pg_layerOf_0 : decode b_Pg_layerOf 0 = .ok (.iload_n 1, 1) := by decide +kernel
theorem d_Pg_layerOf_1 : decode b_Pg_layerOf 1 = .ok (.ifCond .ne 8, 3) := by decide +kernel
theorem d_Pg_layerOf_4 : decode b_Pg_layerOf 4 = .ok (.aload_n 0, 1) := by decide +kernel
theorem d_Pg_layerOf_5 : decode b_Pg_layerOf 5 = .ok (.getfield 36, 3) := by decide +kernel
theorem d_Pg_layerOf_8 : decode b_Pg_layerOf 8 = .ok (.areturn, 1) := by decide +kernel
theorem d_Pg_layerOf_9 : decode b_Pg_layerOf 9 = .ok (.iload_n 1, 1) := by decide +kernel
theorem d_Pg_layerOf_10 : decode b_Pg_layerOf 10 = .ok (.iconst 1, 1) := by decide +kernel
theorem d_Pg_layerOf_11 : decode b_Pg_layerOf 11 = .ok (.if_icmp .ne 10, 3) := by decide +kernel
theorem d_Pg_layerOf_14 : decode b_Pg_layerOf 14 = .ok (.aload_n 0, 1) := by decide +kernel
theorem d_Pg_layerOf_15 : decode b_Pg_layerOf 15 = .ok (.getfield 40, 3) := by decide +kernel
theorem d_Pg_layerOf_18 : decode b_Pg_layerOf 18 = .ok (.goto 4, 3) := by decide +kernel
theorem d_Pg_layerOf_21 : decode b_Pg_layerOf 21 = .ok (.aconst_null, 1) := by decide +kernel
theorem d_Pg_layerOf_22 : decode b_Pg_layerOf 22 = .ok (.areturn, 1) := by decide +kernel
theorem d_Pg_addShape_0 : decode b_Pg_addShape 0 = .ok (.aload_n 0, 1) := by decide +kernel
theorem d_Pg_addShape_1 : decode b_Pg_addShape 1 = .ok (.getfield 17, 3) := by decide +kernel
theorem d_Pg_addShape_4 : decode b_Pg_addShape 4 = .ok (.bipush 8, 2) := by decide +kernel
theorem d_Pg_addShape_6 : decode b_Pg_addShape 6 = .ok (.if_icmp .lt 5, 3) := by decide +kernel
theorem d_Pg_addShape_9 : decode b_Pg_addShape 9 = .ok (.iconst (-1), 1) := by decide +kernel
theorem d_Pg_addShape_10 : decode b_Pg_addShape 10 = .ok (.ireturn, 1) := by decide +kernel
theorem d_Pg_addShape_11 : decode b_Pg_addShape 11 = .ok (.aload_n 0, 1) := by decide +kernel
theorem d_Pg_addShape_12 : decode b_Pg_addShape 12 = .ok (.getfield 11, 3) := by decide +kernel
theorem d_Pg_addShape_15 : decode b_Pg_addShape 15 = .ok (.aload_n 0, 1) := by decide +kernel
theorem d_Pg_addShape_16 : decode b_Pg_addShape 16 = .ok (.getfield 17, 3) := by decide +kernel
theorem d_Pg_addShape_19 : decode b_Pg_addShape 19 = .ok (.aaload, 1) := by decide +kernel
theorem d_Pg_addShape_20 : decode b_Pg_addShape 20 = .ok (.astore 6, 2) := by decide +kernel
theorem d_Pg_addShape_22 : decode b_Pg_addShape 22 = .ok (.aload 6, 2) := by decide +kernel
theorem d_Pg_addShape_24 : decode b_Pg_addShape 24 = .ok (.lload_n 1, 1) := by decide +kernel
theorem d_Pg_addShape_25 : decode b_Pg_addShape 25 = .ok (.putfield 47, 3) := by decide +kernel
theorem d_Pg_addShape_28 : decode b_Pg_addShape 28 = .ok (.aload 6, 2) := by decide +kernel
theorem d_Pg_addShape_30 : decode b_Pg_addShape 30 = .ok (.iload_n 3, 1) := by decide +kernel
theorem d_Pg_addShape_31 : decode b_Pg_addShape 31 = .ok (.putfield 51, 3) := by decide +kernel
theorem d_Pg_addShape_34 : decode b_Pg_addShape 34 = .ok (.aload 6, 2) := by decide +kernel
theorem d_Pg_addShape_36 : decode b_Pg_addShape 36 = .ok (.iload 4, 2) := by decide +kernel
theorem d_Pg_addShape_38 : decode b_Pg_addShape 38 = .ok (.putfield 54, 3) := by decide +kernel
theorem d_Pg_addShape_41 : decode b_Pg_addShape 41 = .ok (.aload 6, 2) := by decide +kernel
theorem d_Pg_addShape_43 : decode b_Pg_addShape 43 = .ok (.iload 5, 2) := by decide +kernel
theorem d_Pg_addShape_45 : decode b_Pg_addShape 45 = .ok (.putfield 57, 3) := by decide +kernel
theorem d_Pg_addShape_48 : decode b_Pg_addShape 48 = .ok (.aload_n 0, 1) := by decide +kernel
theorem d_Pg_addShape_49 : decode b_Pg_addShape 49 = .ok (.dup, 1) := by decide +kernel
theorem d_Pg_addShape_50 : decode b_Pg_addShape 50 = .ok (.getfield 17, 3) := by decide +kernel
theorem d_Pg_addShape_53 : decode b_Pg_addShape 53 = .ok (.iconst 1, 1) := by decide +kernel
theorem d_Pg_addShape_54 : decode b_Pg_addShape 54 = .ok (.iadd, 1) := by decide +kernel
theorem d_Pg_addShape_55 : decode b_Pg_addShape 55 = .ok (.putfield 17, 3) := by decide +kernel
theorem d_Pg_addShape_58 : decode b_Pg_addShape 58 = .ok (.aload_n 0, 1) := by decide +kernel
theorem d_Pg_addShape_59 : decode b_Pg_addShape 59 = .ok (.getfield 17, 3) := by decide +kernel
theorem d_Pg_addShape_62 : decode b_Pg_addShape 62 = .ok (.iconst 1, 1) := by decide +kernel
theorem d_Pg_addShape_63 : decode b_Pg_addShape 63 = .ok (.isub, 1) := by decide +kernel
theorem d_Pg_addShape_64 : decode b_Pg_addShape 64 = .ok (.ireturn, 1) := by decide +kernel
theorem d_Pg_addPlacing_0 : decode b_Pg_addPlacing 0 = .ok (.aload_n 0, 1) := by decide +kernel
theorem d_Pg_addPlacing_1 : decode b_Pg_addPlacing 1 = .ok (.getfield 28, 3) := by decide +kernel
theorem d_Pg_addPlacing_4 : decode b_Pg_addPlacing 4 = .ok (.bipush 20, 2) := by decide +kernel
theorem d_Pg_addPlacing_6 : decode b_Pg_addPlacing 6 = .ok (.if_icmp .lt 5, 3) := by decide +kernel
theorem d_Pg_addPlacing_9 : decode b_Pg_addPlacing 9 = .ok (.iconst (-1), 1) := by decide +kernel
theorem d_Pg_addPlacing_10 : decode b_Pg_addPlacing 10 = .ok (.ireturn, 1) := by decide +kernel
theorem d_Pg_addPlacing_11 : decode b_Pg_addPlacing 11 = .ok (.aload_n 0, 1) := by decide +kernel
theorem d_Pg_addPlacing_12 : decode b_Pg_addPlacing 12 = .ok (.getfield 21, 3) := by decide +kernel
theorem d_Pg_addPlacing_15 : decode b_Pg_addPlacing 15 = .ok (.aload_n 0, 1) := by decide +kernel
theorem d_Pg_addPlacing_16 : decode b_Pg_addPlacing 16 = .ok (.getfield 28, 3) := by decide +kernel
theorem d_Pg_addPlacing_19 : decode b_Pg_addPlacing 19 = .ok (.iload_n 1, 1) := by decide +kernel
theorem d_Pg_addPlacing_20 : decode b_Pg_addPlacing 20 = .ok (.iastore, 1) := by decide +kernel
theorem d_Pg_addPlacing_21 : decode b_Pg_addPlacing 21 = .ok (.aload_n 0, 1) := by decide +kernel
theorem d_Pg_addPlacing_22 : decode b_Pg_addPlacing 22 = .ok (.getfield 25, 3) := by decide +kernel
theorem d_Pg_addPlacing_25 : decode b_Pg_addPlacing 25 = .ok (.aload_n 0, 1) := by decide +kernel
theorem d_Pg_addPlacing_26 : decode b_Pg_addPlacing 26 = .ok (.getfield 28, 3) := by decide +kernel
theorem d_Pg_addPlacing_29 : decode b_Pg_addPlacing 29 = .ok (.iload_n 2, 1) := by decide +kernel
theorem d_Pg_addPlacing_30 : decode b_Pg_addPlacing 30 = .ok (.iastore, 1) := by decide +kernel
theorem d_Pg_addPlacing_31 : decode b_Pg_addPlacing 31 = .ok (.aload_n 0, 1) := by decide +kernel
theorem d_Pg_addPlacing_32 : decode b_Pg_addPlacing 32 = .ok (.dup, 1) := by decide +kernel
theorem d_Pg_addPlacing_33 : decode b_Pg_addPlacing 33 = .ok (.getfield 28, 3) := by decide +kernel
theorem d_Pg_addPlacing_36 : decode b_Pg_addPlacing 36 = .ok (.iconst 1, 1) := by decide +kernel
theorem d_Pg_addPlacing_37 : decode b_Pg_addPlacing 37 = .ok (.iadd, 1) := by decide +kernel
theorem d_Pg_addPlacing_38 : decode b_Pg_addPlacing 38 = .ok (.putfield 28, 3) := by decide +kernel
theorem d_Pg_addPlacing_41 : decode b_Pg_addPlacing 41 = .ok (.aload_n 0, 1) := by decide +kernel
theorem d_Pg_addPlacing_42 : decode b_Pg_addPlacing 42 = .ok (.getfield 28, 3) := by decide +kernel
theorem d_Pg_addPlacing_45 : decode b_Pg_addPlacing 45 = .ok (.ireturn, 1) := by decide +kernel
theorem d_Pg_isInked_0 : decode b_Pg_isInked 0 = .ok (.iconst 0, 1) := by decide +kernel
theorem d_Pg_isInked_1 : decode b_Pg_isInked 1 = .ok (.istore_n 3, 1) := by decide +kernel
theorem d_Pg_isInked_2 : decode b_Pg_isInked 2 = .ok (.iload_n 3, 1) := by decide +kernel
theorem d_Pg_isInked_3 : decode b_Pg_isInked 3 = .ok (.aload_n 0, 1) := by decide +kernel
theorem d_Pg_isInked_4 : decode b_Pg_isInked 4 = .ok (.getfield 28, 3) := by decide +kernel
theorem d_Pg_isInked_7 : decode b_Pg_isInked 7 = .ok (.if_icmp .ge 59, 3) := by decide +kernel
theorem d_Pg_isInked_10 : decode b_Pg_isInked 10 = .ok (.aload_n 0, 1) := by decide +kernel
theorem d_Pg_isInked_11 : decode b_Pg_isInked 11 = .ok (.getfield 25, 3) := by decide +kernel
theorem d_Pg_isInked_14 : decode b_Pg_isInked 14 = .ok (.iload_n 3, 1) := by decide +kernel
theorem d_Pg_isInked_15 : decode b_Pg_isInked 15 = .ok (.iaload, 1) := by decide +kernel
theorem d_Pg_isInked_16 : decode b_Pg_isInked 16 = .ok (.bipush 16, 2) := by decide +kernel
theorem d_Pg_isInked_18 : decode b_Pg_isInked 18 = .ok (.idiv, 1) := by decide +kernel
theorem d_Pg_isInked_19 : decode b_Pg_isInked 19 = .ok (.istore 4, 2) := by decide +kernel
theorem d_Pg_isInked_21 : decode b_Pg_isInked 21 = .ok (.aload_n 0, 1) := by decide +kernel
theorem d_Pg_isInked_22 : decode b_Pg_isInked 22 = .ok (.getfield 25, 3) := by decide +kernel
theorem d_Pg_isInked_25 : decode b_Pg_isInked 25 = .ok (.iload_n 3, 1) := by decide +kernel
theorem d_Pg_isInked_26 : decode b_Pg_isInked 26 = .ok (.iaload, 1) := by decide +kernel
theorem d_Pg_isInked_27 : decode b_Pg_isInked 27 = .ok (.bipush 16, 2) := by decide +kernel
theorem d_Pg_isInked_29 : decode b_Pg_isInked 29 = .ok (.irem, 1) := by decide +kernel
theorem d_Pg_isInked_30 : decode b_Pg_isInked 30 = .ok (.istore 5, 2) := by decide +kernel
theorem d_Pg_isInked_32 : decode b_Pg_isInked 32 = .ok (.aload_n 0, 1) := by decide +kernel
theorem d_Pg_isInked_33 : decode b_Pg_isInked 33 = .ok (.getfield 11, 3) := by decide +kernel
theorem d_Pg_isInked_36 : decode b_Pg_isInked 36 = .ok (.aload_n 0, 1) := by decide +kernel
theorem d_Pg_isInked_37 : decode b_Pg_isInked 37 = .ok (.getfield 21, 3) := by decide +kernel
theorem d_Pg_isInked_40 : decode b_Pg_isInked 40 = .ok (.iload_n 3, 1) := by decide +kernel
theorem d_Pg_isInked_41 : decode b_Pg_isInked 41 = .ok (.iaload, 1) := by decide +kernel
theorem d_Pg_isInked_42 : decode b_Pg_isInked 42 = .ok (.aaload, 1) := by decide +kernel
theorem d_Pg_isInked_43 : decode b_Pg_isInked 43 = .ok (.iload_n 1, 1) := by decide +kernel
theorem d_Pg_isInked_44 : decode b_Pg_isInked 44 = .ok (.iload 4, 2) := by decide +kernel
theorem d_Pg_isInked_46 : decode b_Pg_isInked 46 = .ok (.isub, 1) := by decide +kernel
theorem d_Pg_isInked_47 : decode b_Pg_isInked 47 = .ok (.iload_n 2, 1) := by decide +kernel
theorem d_Pg_isInked_48 : decode b_Pg_isInked 48 = .ok (.iload 5, 2) := by decide +kernel
theorem d_Pg_isInked_50 : decode b_Pg_isInked 50 = .ok (.isub, 1) := by decide +kernel
theorem d_Pg_isInked_51 : decode b_Pg_isInked 51 = .ok (.invokevirtual 60, 3) := by decide +kernel
theorem d_Pg_isInked_54 : decode b_Pg_isInked 54 = .ok (.iconst 1, 1) := by decide +kernel
theorem d_Pg_isInked_55 : decode b_Pg_isInked 55 = .ok (.if_icmp .ne 5, 3) := by decide +kernel
theorem d_Pg_isInked_58 : decode b_Pg_isInked 58 = .ok (.iconst 1, 1) := by decide +kernel
theorem d_Pg_isInked_59 : decode b_Pg_isInked 59 = .ok (.ireturn, 1) := by decide +kernel
theorem d_Pg_isInked_60 : decode b_Pg_isInked 60 = .ok (.iinc 3 1, 3) := by decide +kernel
theorem d_Pg_isInked_63 : decode b_Pg_isInked 63 = .ok (.goto (-61), 3) := by decide +kernel
theorem d_Pg_isInked_66 : decode b_Pg_isInked 66 = .ok (.iconst 0, 1) := by decide +kernel
theorem d_Pg_isInked_67 : decode b_Pg_isInked 67 = .ok (.ireturn, 1) := by decide +kernel
theorem d_Pg_codeShape_0 : decode b_Pg_codeShape 0 = .ok (.aload_n 0, 1) := by decide +kernel
theorem d_Pg_codeShape_1 : decode b_Pg_codeShape 1 = .ok (.getfield 11, 3) := by decide +kernel
theorem d_Pg_codeShape_4 : decode b_Pg_codeShape 4 = .ok (.iload_n 1, 1) := by decide +kernel
theorem d_Pg_codeShape_5 : decode b_Pg_codeShape 5 = .ok (.aaload, 1) := by decide +kernel
theorem d_Pg_codeShape_6 : decode b_Pg_codeShape 6 = .ok (.astore_n 3, 1) := by decide +kernel
theorem d_Pg_codeShape_7 : decode b_Pg_codeShape 7 = .ok (.aload_n 0, 1) := by decide +kernel
theorem d_Pg_codeShape_8 : decode b_Pg_codeShape 8 = .ok (.aload_n 3, 1) := by decide +kernel
theorem d_Pg_codeShape_9 : decode b_Pg_codeShape 9 = .ok (.getfield 57, 3) := by decide +kernel
theorem d_Pg_codeShape_12 : decode b_Pg_codeShape 12 = .ok (.invokevirtual 64, 3) := by decide +kernel
theorem d_Pg_codeShape_15 : decode b_Pg_codeShape 15 = .ok (.ifCond .eq 15, 3) := by decide +kernel
theorem d_Pg_codeShape_18 : decode b_Pg_codeShape 18 = .ok (.aload_n 0, 1) := by decide +kernel
theorem d_Pg_codeShape_19 : decode b_Pg_codeShape 19 = .ok (.getfield 11, 3) := by decide +kernel
theorem d_Pg_codeShape_22 : decode b_Pg_codeShape 22 = .ok (.aload_n 3, 1) := by decide +kernel
theorem d_Pg_codeShape_23 : decode b_Pg_codeShape 23 = .ok (.getfield 57, 3) := by decide +kernel
theorem d_Pg_codeShape_26 : decode b_Pg_codeShape 26 = .ok (.aaload, 1) := by decide +kernel
theorem d_Pg_codeShape_27 : decode b_Pg_codeShape 27 = .ok (.goto 4, 3) := by decide +kernel
theorem d_Pg_codeShape_30 : decode b_Pg_codeShape 30 = .ok (.aconst_null, 1) := by decide +kernel
theorem d_Pg_codeShape_31 : decode b_Pg_codeShape 31 = .ok (.astore 4, 2) := by decide +kernel
theorem d_Pg_codeShape_33 : decode b_Pg_codeShape 33 = .ok (.iconst 0, 1) := by decide +kernel
theorem d_Pg_codeShape_34 : decode b_Pg_codeShape 34 = .ok (.istore 5, 2) := by decide +kernel
theorem d_Pg_codeShape_36 : decode b_Pg_codeShape 36 = .ok (.iload 5, 2) := by decide +kernel
theorem d_Pg_codeShape_38 : decode b_Pg_codeShape 38 = .ok (.aload_n 3, 1) := by decide +kernel
theorem d_Pg_codeShape_39 : decode b_Pg_codeShape 39 = .ok (.getfield 54, 3) := by decide +kernel
theorem d_Pg_codeShape_42 : decode b_Pg_codeShape 42 = .ok (.if_icmp .ge 92, 3) := by decide +kernel
theorem d_Pg_codeShape_45 : decode b_Pg_codeShape 45 = .ok (.iconst 0, 1) := by decide +kernel
theorem d_Pg_codeShape_46 : decode b_Pg_codeShape 46 = .ok (.istore 6, 2) := by decide +kernel
theorem d_Pg_codeShape_48 : decode b_Pg_codeShape 48 = .ok (.iload 6, 2) := by decide +kernel
theorem d_Pg_codeShape_50 : decode b_Pg_codeShape 50 = .ok (.aload_n 3, 1) := by decide +kernel
theorem d_Pg_codeShape_51 : decode b_Pg_codeShape 51 = .ok (.getfield 51, 3) := by decide +kernel
theorem d_Pg_codeShape_54 : decode b_Pg_codeShape 54 = .ok (.if_icmp .ge 74, 3) := by decide +kernel
theorem d_Pg_codeShape_57 : decode b_Pg_codeShape 57 = .ok (.aload 4, 2) := by decide +kernel
theorem d_Pg_codeShape_59 : decode b_Pg_codeShape 59 = .ok (.ifnonnull 14, 3) := by decide +kernel
theorem d_Pg_codeShape_62 : decode b_Pg_codeShape 62 = .ok (.aload_n 3, 1) := by decide +kernel
theorem d_Pg_codeShape_63 : decode b_Pg_codeShape 63 = .ok (.iload 6, 2) := by decide +kernel
theorem d_Pg_codeShape_65 : decode b_Pg_codeShape 65 = .ok (.iload 5, 2) := by decide +kernel
theorem d_Pg_codeShape_67 : decode b_Pg_codeShape 67 = .ok (.invokevirtual 68, 3) := by decide +kernel
theorem d_Pg_codeShape_70 : decode b_Pg_codeShape 70 = .ok (.goto 13, 3) := by decide +kernel
theorem d_Pg_codeShape_73 : decode b_Pg_codeShape 73 = .ok (.aload_n 3, 1) := by decide +kernel
theorem d_Pg_codeShape_74 : decode b_Pg_codeShape 74 = .ok (.aload 4, 2) := by decide +kernel
theorem d_Pg_codeShape_76 : decode b_Pg_codeShape 76 = .ok (.iload 6, 2) := by decide +kernel
theorem d_Pg_codeShape_78 : decode b_Pg_codeShape 78 = .ok (.iload 5, 2) := by decide +kernel
theorem d_Pg_codeShape_80 : decode b_Pg_codeShape 80 = .ok (.invokevirtual 71, 3) := by decide +kernel
theorem d_Pg_codeShape_83 : decode b_Pg_codeShape 83 = .ok (.istore 7, 2) := by decide +kernel
theorem d_Pg_codeShape_85 : decode b_Pg_codeShape 85 = .ok (.aload_n 2, 1) := by decide +kernel
theorem d_Pg_codeShape_86 : decode b_Pg_codeShape 86 = .ok (.iload 7, 2) := by decide +kernel
theorem d_Pg_codeShape_88 : decode b_Pg_codeShape 88 = .ok (.aload_n 3, 1) := by decide +kernel
theorem d_Pg_codeShape_89 : decode b_Pg_codeShape 89 = .ok (.iload 6, 2) := by decide +kernel
theorem d_Pg_codeShape_91 : decode b_Pg_codeShape 91 = .ok (.iload 5, 2) := by decide +kernel
theorem d_Pg_codeShape_93 : decode b_Pg_codeShape 93 = .ok (.invokevirtual 60, 3) := by decide +kernel
theorem d_Pg_codeShape_96 : decode b_Pg_codeShape 96 = .ok (.invokevirtual 75, 3) := by decide +kernel
theorem d_Pg_codeShape_99 : decode b_Pg_codeShape 99 = .ok (.iconst 1, 1) := by decide +kernel
theorem d_Pg_codeShape_100 : decode b_Pg_codeShape 100 = .ok (.if_icmp .ne 22, 3) := by decide +kernel
theorem d_Pg_codeShape_103 : decode b_Pg_codeShape 103 = .ok (.aload_n 3, 1) := by decide +kernel
theorem d_Pg_codeShape_104 : decode b_Pg_codeShape 104 = .ok (.dup, 1) := by decide +kernel
theorem d_Pg_codeShape_105 : decode b_Pg_codeShape 105 = .ok (.getfield 47, 3) := by decide +kernel
theorem d_Pg_codeShape_108 : decode b_Pg_codeShape 108 = .ok (.lconst 1, 1) := by decide +kernel
theorem d_Pg_codeShape_109 : decode b_Pg_codeShape 109 = .ok (.bipush 8, 2) := by decide +kernel
theorem d_Pg_codeShape_111 : decode b_Pg_codeShape 111 = .ok (.iload 5, 2) := by decide +kernel
theorem d_Pg_codeShape_113 : decode b_Pg_codeShape 113 = .ok (.imul, 1) := by decide +kernel
theorem d_Pg_codeShape_114 : decode b_Pg_codeShape 114 = .ok (.iload 6, 2) := by decide +kernel
theorem d_Pg_codeShape_116 : decode b_Pg_codeShape 116 = .ok (.iadd, 1) := by decide +kernel
theorem d_Pg_codeShape_117 : decode b_Pg_codeShape 117 = .ok (.lshl, 1) := by decide +kernel
theorem d_Pg_codeShape_118 : decode b_Pg_codeShape 118 = .ok (.lor, 1) := by decide +kernel
theorem d_Pg_codeShape_119 : decode b_Pg_codeShape 119 = .ok (.putfield 47, 3) := by decide +kernel
theorem d_Pg_codeShape_122 : decode b_Pg_codeShape 122 = .ok (.iinc 6 1, 3) := by decide +kernel
theorem d_Pg_codeShape_125 : decode b_Pg_codeShape 125 = .ok (.goto (-77), 3) := by decide +kernel
theorem d_Pg_codeShape_128 : decode b_Pg_codeShape 128 = .ok (.iinc 5 1, 3) := by decide +kernel
theorem d_Pg_codeShape_131 : decode b_Pg_codeShape 131 = .ok (.goto (-95), 3) := by decide +kernel
theorem d_Pg_codeShape_134 : decode b_Pg_codeShape 134 = .ok (.return_, 1) := by decide +kernel
theorem d_Sh_init_0 : decode b_Sh_init 0 = .ok (.aload_n 0, 1) := by decide +kernel
theorem d_Sh_init_1 : decode b_Sh_init 1 = .ok (.invokespecial 3, 3) := by decide +kernel
theorem d_Sh_init_4 : decode b_Sh_init 4 = .ok (.aload_n 0, 1) := by decide +kernel
theorem d_Sh_init_5 : decode b_Sh_init 5 = .ok (.lconst 0, 1) := by decide +kernel
theorem d_Sh_init_6 : decode b_Sh_init 6 = .ok (.putfield 9, 3) := by decide +kernel
theorem d_Sh_init_9 : decode b_Sh_init 9 = .ok (.aload_n 0, 1) := by decide +kernel
theorem d_Sh_init_10 : decode b_Sh_init 10 = .ok (.iconst 1, 1) := by decide +kernel
theorem d_Sh_init_11 : decode b_Sh_init 11 = .ok (.putfield 15, 3) := by decide +kernel
theorem d_Sh_init_14 : decode b_Sh_init 14 = .ok (.aload_n 0, 1) := by decide +kernel
theorem d_Sh_init_15 : decode b_Sh_init 15 = .ok (.iconst 1, 1) := by decide +kernel
theorem d_Sh_init_16 : decode b_Sh_init 16 = .ok (.putfield 19, 3) := by decide +kernel
theorem d_Sh_init_19 : decode b_Sh_init 19 = .ok (.aload_n 0, 1) := by decide +kernel
theorem d_Sh_init_20 : decode b_Sh_init 20 = .ok (.iconst (-1), 1) := by decide +kernel
theorem d_Sh_init_21 : decode b_Sh_init 21 = .ok (.putfield 22, 3) := by decide +kernel
theorem d_Sh_init_24 : decode b_Sh_init 24 = .ok (.return_, 1) := by decide +kernel
theorem d_Sh_bitAt_0 : decode b_Sh_bitAt 0 = .ok (.iload_n 1, 1) := by decide +kernel
theorem d_Sh_bitAt_1 : decode b_Sh_bitAt 1 = .ok (.ifCond .lt 23, 3) := by decide +kernel
theorem d_Sh_bitAt_4 : decode b_Sh_bitAt 4 = .ok (.iload_n 1, 1) := by decide +kernel
theorem d_Sh_bitAt_5 : decode b_Sh_bitAt 5 = .ok (.aload_n 0, 1) := by decide +kernel
theorem d_Sh_bitAt_6 : decode b_Sh_bitAt 6 = .ok (.getfield 15, 3) := by decide +kernel
theorem d_Sh_bitAt_9 : decode b_Sh_bitAt 9 = .ok (.if_icmp .ge 15, 3) := by decide +kernel
theorem d_Sh_bitAt_12 : decode b_Sh_bitAt 12 = .ok (.iload_n 2, 1) := by decide +kernel
theorem d_Sh_bitAt_13 : decode b_Sh_bitAt 13 = .ok (.ifCond .lt 11, 3) := by decide +kernel
theorem d_Sh_bitAt_16 : decode b_Sh_bitAt 16 = .ok (.iload_n 2, 1) := by decide +kernel
theorem d_Sh_bitAt_17 : decode b_Sh_bitAt 17 = .ok (.aload_n 0, 1) := by decide +kernel
theorem d_Sh_bitAt_18 : decode b_Sh_bitAt 18 = .ok (.getfield 19, 3) := by decide +kernel
theorem d_Sh_bitAt_21 : decode b_Sh_bitAt 21 = .ok (.if_icmp .lt 5, 3) := by decide +kernel
theorem d_Sh_bitAt_24 : decode b_Sh_bitAt 24 = .ok (.iconst 0, 1) := by decide +kernel
theorem d_Sh_bitAt_25 : decode b_Sh_bitAt 25 = .ok (.ireturn, 1) := by decide +kernel
theorem d_Sh_bitAt_26 : decode b_Sh_bitAt 26 = .ok (.aload_n 0, 1) := by decide +kernel
theorem d_Sh_bitAt_27 : decode b_Sh_bitAt 27 = .ok (.getfield 9, 3) := by decide +kernel
theorem d_Sh_bitAt_30 : decode b_Sh_bitAt 30 = .ok (.bipush 8, 2) := by decide +kernel
theorem d_Sh_bitAt_32 : decode b_Sh_bitAt 32 = .ok (.iload_n 2, 1) := by decide +kernel
theorem d_Sh_bitAt_33 : decode b_Sh_bitAt 33 = .ok (.imul, 1) := by decide +kernel
theorem d_Sh_bitAt_34 : decode b_Sh_bitAt 34 = .ok (.iload_n 1, 1) := by decide +kernel
theorem d_Sh_bitAt_35 : decode b_Sh_bitAt 35 = .ok (.iadd, 1) := by decide +kernel
theorem d_Sh_bitAt_36 : decode b_Sh_bitAt 36 = .ok (.lushr, 1) := by decide +kernel
theorem d_Sh_bitAt_37 : decode b_Sh_bitAt 37 = .ok (.l2i, 1) := by decide +kernel
theorem d_Sh_bitAt_38 : decode b_Sh_bitAt 38 = .ok (.iconst 1, 1) := by decide +kernel
theorem d_Sh_bitAt_39 : decode b_Sh_bitAt 39 = .ok (.iand, 1) := by decide +kernel
theorem d_Sh_bitAt_40 : decode b_Sh_bitAt 40 = .ok (.ireturn, 1) := by decide +kernel
theorem d_Sh_contextAlone_0 : decode b_Sh_contextAlone 0 = .ok (.aload_n 0, 1) := by decide +kernel
theorem d_Sh_contextAlone_1 : decode b_Sh_contextAlone 1 = .ok (.iload_n 1, 1) := by decide +kernel
theorem d_Sh_contextAlone_2 : decode b_Sh_contextAlone 2 = .ok (.iconst 1, 1) := by decide +kernel
theorem d_Sh_contextAlone_3 : decode b_Sh_contextAlone 3 = .ok (.isub, 1) := by decide +kernel
theorem d_Sh_contextAlone_4 : decode b_Sh_contextAlone 4 = .ok (.iload_n 2, 1) := by decide +kernel
theorem d_Sh_contextAlone_5 : decode b_Sh_contextAlone 5 = .ok (.invokevirtual 25, 3) := by decide +kernel
theorem d_Sh_contextAlone_8 : decode b_Sh_contextAlone 8 = .ok (.iconst 2, 1) := by decide +kernel
theorem d_Sh_contextAlone_9 : decode b_Sh_contextAlone 9 = .ok (.aload_n 0, 1) := by decide +kernel
theorem d_Sh_contextAlone_10 : decode b_Sh_contextAlone 10 = .ok (.iload_n 1, 1) := by decide +kernel
theorem d_Sh_contextAlone_11 : decode b_Sh_contextAlone 11 = .ok (.iconst 1, 1) := by decide +kernel
theorem d_Sh_contextAlone_12 : decode b_Sh_contextAlone 12 = .ok (.isub, 1) := by decide +kernel
theorem d_Sh_contextAlone_13 : decode b_Sh_contextAlone 13 = .ok (.iload_n 2, 1) := by decide +kernel
theorem d_Sh_contextAlone_14 : decode b_Sh_contextAlone 14 = .ok (.iconst 1, 1) := by decide +kernel
theorem d_Sh_contextAlone_15 : decode b_Sh_contextAlone 15 = .ok (.isub, 1) := by decide +kernel
theorem d_Sh_contextAlone_16 : decode b_Sh_contextAlone 16 = .ok (.invokevirtual 25, 3) := by decide +kernel
theorem d_Sh_contextAlone_19 : decode b_Sh_contextAlone 19 = .ok (.imul, 1) := by decide +kernel
theorem d_Sh_contextAlone_20 : decode b_Sh_contextAlone 20 = .ok (.iadd, 1) := by decide +kernel
theorem d_Sh_contextAlone_21 : decode b_Sh_contextAlone 21 = .ok (.iconst 4, 1) := by decide +kernel
theorem d_Sh_contextAlone_22 : decode b_Sh_contextAlone 22 = .ok (.aload_n 0, 1) := by decide +kernel
theorem d_Sh_contextAlone_23 : decode b_Sh_contextAlone 23 = .ok (.iload_n 1, 1) := by decide +kernel
theorem d_Sh_contextAlone_24 : decode b_Sh_contextAlone 24 = .ok (.iload_n 2, 1) := by decide +kernel
theorem d_Sh_contextAlone_25 : decode b_Sh_contextAlone 25 = .ok (.iconst 1, 1) := by decide +kernel
theorem d_Sh_contextAlone_26 : decode b_Sh_contextAlone 26 = .ok (.isub, 1) := by decide +kernel
theorem d_Sh_contextAlone_27 : decode b_Sh_contextAlone 27 = .ok (.invokevirtual 25, 3) := by decide +kernel
theorem d_Sh_contextAlone_30 : decode b_Sh_contextAlone 30 = .ok (.imul, 1) := by decide +kernel
theorem d_Sh_contextAlone_31 : decode b_Sh_contextAlone 31 = .ok (.iadd, 1) := by decide +kernel
theorem d_Sh_contextAlone_32 : decode b_Sh_contextAlone 32 = .ok (.bipush 8, 2) := by decide +kernel
theorem d_Sh_contextAlone_34 : decode b_Sh_contextAlone 34 = .ok (.aload_n 0, 1) := by decide +kernel
theorem d_Sh_contextAlone_35 : decode b_Sh_contextAlone 35 = .ok (.iload_n 1, 1) := by decide +kernel
theorem d_Sh_contextAlone_36 : decode b_Sh_contextAlone 36 = .ok (.iconst 1, 1) := by decide +kernel
theorem d_Sh_contextAlone_37 : decode b_Sh_contextAlone 37 = .ok (.iadd, 1) := by decide +kernel
theorem d_Sh_contextAlone_38 : decode b_Sh_contextAlone 38 = .ok (.iload_n 2, 1) := by decide +kernel
theorem d_Sh_contextAlone_39 : decode b_Sh_contextAlone 39 = .ok (.iconst 1, 1) := by decide +kernel
theorem d_Sh_contextAlone_40 : decode b_Sh_contextAlone 40 = .ok (.isub, 1) := by decide +kernel
theorem d_Sh_contextAlone_41 : decode b_Sh_contextAlone 41 = .ok (.invokevirtual 25, 3) := by decide +kernel
theorem d_Sh_contextAlone_44 : decode b_Sh_contextAlone 44 = .ok (.imul, 1) := by decide +kernel
theorem d_Sh_contextAlone_45 : decode b_Sh_contextAlone 45 = .ok (.iadd, 1) := by decide +kernel
theorem d_Sh_contextAlone_46 : decode b_Sh_contextAlone 46 = .ok (.ireturn, 1) := by decide +kernel
theorem d_Sh_contextWith_0 : decode b_Sh_contextWith 0 = .ok (.bipush 16, 2) := by decide +kernel
theorem d_Sh_contextWith_2 : decode b_Sh_contextWith 2 = .ok (.aload_n 0, 1) := by decide +kernel
theorem d_Sh_contextWith_3 : decode b_Sh_contextWith 3 = .ok (.iload_n 2, 1) := by decide +kernel
theorem d_Sh_contextWith_4 : decode b_Sh_contextWith 4 = .ok (.iconst 1, 1) := by decide +kernel
theorem d_Sh_contextWith_5 : decode b_Sh_contextWith 5 = .ok (.isub, 1) := by decide +kernel
theorem d_Sh_contextWith_6 : decode b_Sh_contextWith 6 = .ok (.iload_n 3, 1) := by decide +kernel
theorem d_Sh_contextWith_7 : decode b_Sh_contextWith 7 = .ok (.invokevirtual 25, 3) := by decide +kernel
theorem d_Sh_contextWith_10 : decode b_Sh_contextWith 10 = .ok (.iadd, 1) := by decide +kernel
theorem d_Sh_contextWith_11 : decode b_Sh_contextWith 11 = .ok (.iconst 2, 1) := by decide +kernel
theorem d_Sh_contextWith_12 : decode b_Sh_contextWith 12 = .ok (.aload_n 0, 1) := by decide +kernel
theorem d_Sh_contextWith_13 : decode b_Sh_contextWith 13 = .ok (.iload_n 2, 1) := by decide +kernel
theorem d_Sh_contextWith_14 : decode b_Sh_contextWith 14 = .ok (.iload_n 3, 1) := by decide +kernel
theorem d_Sh_contextWith_15 : decode b_Sh_contextWith 15 = .ok (.iconst 1, 1) := by decide +kernel
theorem d_Sh_contextWith_16 : decode b_Sh_contextWith 16 = .ok (.isub, 1) := by decide +kernel
theorem d_Sh_contextWith_17 : decode b_Sh_contextWith 17 = .ok (.invokevirtual 25, 3) := by decide +kernel
theorem d_Sh_contextWith_20 : decode b_Sh_contextWith 20 = .ok (.imul, 1) := by decide +kernel
theorem d_Sh_contextWith_21 : decode b_Sh_contextWith 21 = .ok (.iadd, 1) := by decide +kernel
theorem d_Sh_contextWith_22 : decode b_Sh_contextWith 22 = .ok (.iconst 4, 1) := by decide +kernel
theorem d_Sh_contextWith_23 : decode b_Sh_contextWith 23 = .ok (.aload_n 1, 1) := by decide +kernel
theorem d_Sh_contextWith_24 : decode b_Sh_contextWith 24 = .ok (.iload_n 2, 1) := by decide +kernel
theorem d_Sh_contextWith_25 : decode b_Sh_contextWith 25 = .ok (.iload_n 3, 1) := by decide +kernel
theorem d_Sh_contextWith_26 : decode b_Sh_contextWith 26 = .ok (.invokevirtual 25, 3) := by decide +kernel
theorem d_Sh_contextWith_29 : decode b_Sh_contextWith 29 = .ok (.imul, 1) := by decide +kernel
theorem d_Sh_contextWith_30 : decode b_Sh_contextWith 30 = .ok (.iadd, 1) := by decide +kernel
theorem d_Sh_contextWith_31 : decode b_Sh_contextWith 31 = .ok (.bipush 8, 2) := by decide +kernel
theorem d_Sh_contextWith_33 : decode b_Sh_contextWith 33 = .ok (.aload_n 1, 1) := by decide +kernel
theorem d_Sh_contextWith_34 : decode b_Sh_contextWith 34 = .ok (.iload_n 2, 1) := by decide +kernel
theorem d_Sh_contextWith_35 : decode b_Sh_contextWith 35 = .ok (.iconst 1, 1) := by decide +kernel
theorem d_Sh_contextWith_36 : decode b_Sh_contextWith 36 = .ok (.iadd, 1) := by decide +kernel
theorem d_Sh_contextWith_37 : decode b_Sh_contextWith 37 = .ok (.iload_n 3, 1) := by decide +kernel
theorem d_Sh_contextWith_38 : decode b_Sh_contextWith 38 = .ok (.invokevirtual 25, 3) := by decide +kernel
theorem d_Sh_contextWith_41 : decode b_Sh_contextWith 41 = .ok (.imul, 1) := by decide +kernel
theorem d_Sh_contextWith_42 : decode b_Sh_contextWith 42 = .ok (.iadd, 1) := by decide +kernel
theorem d_Sh_contextWith_43 : decode b_Sh_contextWith 43 = .ok (.bipush 16, 2) := by decide +kernel
theorem d_Sh_contextWith_45 : decode b_Sh_contextWith 45 = .ok (.aload_n 1, 1) := by decide +kernel
theorem d_Sh_contextWith_46 : decode b_Sh_contextWith 46 = .ok (.iload_n 2, 1) := by decide +kernel
theorem d_Sh_contextWith_47 : decode b_Sh_contextWith 47 = .ok (.iload_n 3, 1) := by decide +kernel
theorem d_Sh_contextWith_48 : decode b_Sh_contextWith 48 = .ok (.iconst 1, 1) := by decide +kernel
theorem d_Sh_contextWith_49 : decode b_Sh_contextWith 49 = .ok (.iadd, 1) := by decide +kernel
theorem d_Sh_contextWith_50 : decode b_Sh_contextWith 50 = .ok (.invokevirtual 25, 3) := by decide +kernel
theorem d_Sh_contextWith_53 : decode b_Sh_contextWith 53 = .ok (.imul, 1) := by decide +kernel
theorem d_Sh_contextWith_54 : decode b_Sh_contextWith 54 = .ok (.iadd, 1) := by decide +kernel
theorem d_Sh_contextWith_55 : decode b_Sh_contextWith 55 = .ok (.ireturn, 1) := by decide +kernel
theorem d_Law_law_0 : decode code 0 = .ok (.new 7, 3) := by decide +kernel
theorem d_Law_law_3 : decode code 3 = .ok (.dup, 1) := by decide +kernel
theorem d_Law_law_4 : decode code 4 = .ok (.invokespecial 9, 3) := by decide +kernel
theorem d_Law_law_7 : decode code 7 = .ok (.astore_n 1, 1) := by decide +kernel
theorem d_Law_law_8 : decode code 8 = .ok (.new 10, 3) := by decide +kernel
theorem d_Law_law_11 : decode code 11 = .ok (.dup, 1) := by decide +kernel
theorem d_Law_law_12 : decode code 12 = .ok (.invokespecial 12, 3) := by decide +kernel
theorem d_Law_law_15 : decode code 15 = .ok (.astore_n 2, 1) := by decide +kernel
theorem d_Law_law_16 : decode code 16 = .ok (.iconst 0, 1) := by decide +kernel
theorem d_Law_law_17 : decode code 17 = .ok (.istore_n 3, 1) := by decide +kernel
theorem d_Law_law_18 : decode code 18 = .ok (.iload_n 3, 1) := by decide +kernel
theorem d_Law_law_19 : decode code 19 = .ok (.aload_n 0, 1) := by decide +kernel
theorem d_Law_law_20 : decode code 20 = .ok (.arraylength, 1) := by decide +kernel
theorem d_Law_law_21 : decode code 21 = .ok (.bipush 6, 2) := by decide +kernel
theorem d_Law_law_23 : decode code 23 = .ok (.isub, 1) := by decide +kernel
theorem d_Law_law_24 : decode code 24 = .ok (.if_icmp .gt 638, 3) := by decide +kernel
theorem d_Law_law_27 : decode code 27 = .ok (.aload_n 0, 1) := by decide +kernel
theorem d_Law_law_28 : decode code 28 = .ok (.iload_n 3, 1) := by decide +kernel
theorem d_Law_law_29 : decode code 29 = .ok (.iaload, 1) := by decide +kernel
theorem d_Law_law_30 : decode code 30 = .ok (.bipush 31, 2) := by decide +kernel
theorem d_Law_law_32 : decode code 32 = .ok (.iand, 1) := by decide +kernel
theorem d_Law_law_116 : decode code 116 = .ok (.aload_n 1, 1) := by decide +kernel
theorem d_Law_law_117 : decode code 117 = .ok (.aload_n 0, 1) := by decide +kernel
theorem d_Law_law_118 : decode code 118 = .ok (.iload_n 3, 1) := by decide +kernel
theorem d_Law_law_119 : decode code 119 = .ok (.iconst 1, 1) := by decide +kernel
theorem d_Law_law_120 : decode code 120 = .ok (.iadd, 1) := by decide +kernel
theorem d_Law_law_121 : decode code 121 = .ok (.iaload, 1) := by decide +kernel
theorem d_Law_law_122 : decode code 122 = .ok (.i2l, 1) := by decide +kernel
theorem d_Law_law_123 : decode code 123 = .ok (.bipush 32, 2) := by decide +kernel
theorem d_Law_law_125 : decode code 125 = .ok (.lshl, 1) := by decide +kernel
theorem d_Law_law_126 : decode code 126 = .ok (.aload_n 0, 1) := by decide +kernel
theorem d_Law_law_127 : decode code 127 = .ok (.iload_n 3, 1) := by decide +kernel
theorem d_Law_law_128 : decode code 128 = .ok (.iconst 2, 1) := by decide +kernel
theorem d_Law_law_129 : decode code 129 = .ok (.iadd, 1) := by decide +kernel
theorem d_Law_law_130 : decode code 130 = .ok (.iaload, 1) := by decide +kernel
theorem d_Law_law_131 : decode code 131 = .ok (.i2l, 1) := by decide +kernel
theorem d_Law_law_132 : decode code 132 = .ok (.ldc2_w 13, 3) := by decide +kernel
theorem d_Law_law_135 : decode code 135 = .ok (.land, 1) := by decide +kernel
theorem d_Law_law_136 : decode code 136 = .ok (.lor, 1) := by decide +kernel
theorem d_Law_law_137 : decode code 137 = .ok (.aload_n 0, 1) := by decide +kernel
theorem d_Law_law_138 : decode code 138 = .ok (.iload_n 3, 1) := by decide +kernel
theorem d_Law_law_139 : decode code 139 = .ok (.iconst 3, 1) := by decide +kernel
theorem d_Law_law_140 : decode code 140 = .ok (.iadd, 1) := by decide +kernel
theorem d_Law_law_141 : decode code 141 = .ok (.iaload, 1) := by decide +kernel
theorem d_Law_law_142 : decode code 142 = .ok (.aload_n 0, 1) := by decide +kernel
theorem d_Law_law_143 : decode code 143 = .ok (.iload_n 3, 1) := by decide +kernel
theorem d_Law_law_144 : decode code 144 = .ok (.iconst 4, 1) := by decide +kernel
theorem d_Law_law_145 : decode code 145 = .ok (.iadd, 1) := by decide +kernel
theorem d_Law_law_146 : decode code 146 = .ok (.iaload, 1) := by decide +kernel
theorem d_Law_law_147 : decode code 147 = .ok (.aload_n 0, 1) := by decide +kernel
theorem d_Law_law_148 : decode code 148 = .ok (.iload_n 3, 1) := by decide +kernel
theorem d_Law_law_149 : decode code 149 = .ok (.iconst 5, 1) := by decide +kernel
theorem d_Law_law_150 : decode code 150 = .ok (.iadd, 1) := by decide +kernel
theorem d_Law_law_151 : decode code 151 = .ok (.iaload, 1) := by decide +kernel
theorem d_Law_law_152 : decode code 152 = .ok (.invokevirtual 15, 3) := by decide +kernel
theorem d_Law_law_155 : decode code 155 = .ok (.aload_n 2, 1) := by decide +kernel
theorem d_Law_law_156 : decode code 156 = .ok (.aload_n 0, 1) := by decide +kernel
theorem d_Law_law_157 : decode code 157 = .ok (.iload_n 3, 1) := by decide +kernel
theorem d_Law_law_158 : decode code 158 = .ok (.iconst 1, 1) := by decide +kernel
theorem d_Law_law_159 : decode code 159 = .ok (.iadd, 1) := by decide +kernel
theorem d_Law_law_160 : decode code 160 = .ok (.iaload, 1) := by decide +kernel
theorem d_Law_law_161 : decode code 161 = .ok (.i2l, 1) := by decide +kernel
theorem d_Law_law_162 : decode code 162 = .ok (.bipush 32, 2) := by decide +kernel
theorem d_Law_law_164 : decode code 164 = .ok (.lshl, 1) := by decide +kernel
theorem d_Law_law_165 : decode code 165 = .ok (.aload_n 0, 1) := by decide +kernel
theorem d_Law_law_166 : decode code 166 = .ok (.iload_n 3, 1) := by decide +kernel
theorem d_Law_law_167 : decode code 167 = .ok (.iconst 2, 1) := by decide +kernel
theorem d_Law_law_168 : decode code 168 = .ok (.iadd, 1) := by decide +kernel
theorem d_Law_law_169 : decode code 169 = .ok (.iaload, 1) := by decide +kernel
theorem d_Law_law_170 : decode code 170 = .ok (.i2l, 1) := by decide +kernel
theorem d_Law_law_171 : decode code 171 = .ok (.ldc2_w 13, 3) := by decide +kernel
theorem d_Law_law_174 : decode code 174 = .ok (.land, 1) := by decide +kernel
theorem d_Law_law_175 : decode code 175 = .ok (.lor, 1) := by decide +kernel
theorem d_Law_law_176 : decode code 176 = .ok (.aload_n 0, 1) := by decide +kernel
theorem d_Law_law_177 : decode code 177 = .ok (.iload_n 3, 1) := by decide +kernel
theorem d_Law_law_178 : decode code 178 = .ok (.iconst 3, 1) := by decide +kernel
theorem d_Law_law_179 : decode code 179 = .ok (.iadd, 1) := by decide +kernel
theorem d_Law_law_180 : decode code 180 = .ok (.iaload, 1) := by decide +kernel
theorem d_Law_law_181 : decode code 181 = .ok (.aload_n 0, 1) := by decide +kernel
theorem d_Law_law_182 : decode code 182 = .ok (.iload_n 3, 1) := by decide +kernel
theorem d_Law_law_183 : decode code 183 = .ok (.iconst 4, 1) := by decide +kernel
theorem d_Law_law_184 : decode code 184 = .ok (.iadd, 1) := by decide +kernel
theorem d_Law_law_185 : decode code 185 = .ok (.iaload, 1) := by decide +kernel
theorem d_Law_law_186 : decode code 186 = .ok (.aload_n 0, 1) := by decide +kernel
theorem d_Law_law_187 : decode code 187 = .ok (.iload_n 3, 1) := by decide +kernel
theorem d_Law_law_188 : decode code 188 = .ok (.iconst 5, 1) := by decide +kernel
theorem d_Law_law_189 : decode code 189 = .ok (.iadd, 1) := by decide +kernel
theorem d_Law_law_190 : decode code 190 = .ok (.iaload, 1) := by decide +kernel
theorem d_Law_law_191 : decode code 191 = .ok (.invokevirtual 19, 3) := by decide +kernel
theorem d_Law_law_194 : decode code 194 = .ok (.if_icmp .eq 462, 3) := by decide +kernel
theorem d_Law_law_197 : decode code 197 = .ok (.iconst 0, 1) := by decide +kernel
theorem d_Law_law_198 : decode code 198 = .ok (.ireturn, 1) := by decide +kernel
theorem d_Law_law_199 : decode code 199 = .ok (.aload_n 1, 1) := by decide +kernel
theorem d_Law_law_200 : decode code 200 = .ok (.aload_n 0, 1) := by decide +kernel
theorem d_Law_law_201 : decode code 201 = .ok (.iload_n 3, 1) := by decide +kernel
theorem d_Law_law_202 : decode code 202 = .ok (.iconst 1, 1) := by decide +kernel
theorem d_Law_law_203 : decode code 203 = .ok (.iadd, 1) := by decide +kernel
theorem d_Law_law_204 : decode code 204 = .ok (.iaload, 1) := by decide +kernel
theorem d_Law_law_205 : decode code 205 = .ok (.aload_n 0, 1) := by decide +kernel
theorem d_Law_law_206 : decode code 206 = .ok (.iload_n 3, 1) := by decide +kernel
theorem d_Law_law_207 : decode code 207 = .ok (.iconst 2, 1) := by decide +kernel
theorem d_Law_law_208 : decode code 208 = .ok (.iadd, 1) := by decide +kernel
theorem d_Law_law_209 : decode code 209 = .ok (.iaload, 1) := by decide +kernel
theorem d_Law_law_210 : decode code 210 = .ok (.aload_n 0, 1) := by decide +kernel
theorem d_Law_law_211 : decode code 211 = .ok (.iload_n 3, 1) := by decide +kernel
theorem d_Law_law_212 : decode code 212 = .ok (.iconst 3, 1) := by decide +kernel
theorem d_Law_law_213 : decode code 213 = .ok (.iadd, 1) := by decide +kernel
theorem d_Law_law_214 : decode code 214 = .ok (.iaload, 1) := by decide +kernel
theorem d_Law_law_215 : decode code 215 = .ok (.invokevirtual 20, 3) := by decide +kernel
theorem d_Law_law_218 : decode code 218 = .ok (.aload_n 2, 1) := by decide +kernel
theorem d_Law_law_219 : decode code 219 = .ok (.aload_n 0, 1) := by decide +kernel
theorem d_Law_law_220 : decode code 220 = .ok (.iload_n 3, 1) := by decide +kernel
theorem d_Law_law_221 : decode code 221 = .ok (.iconst 1, 1) := by decide +kernel
theorem d_Law_law_222 : decode code 222 = .ok (.iadd, 1) := by decide +kernel
theorem d_Law_law_223 : decode code 223 = .ok (.iaload, 1) := by decide +kernel
theorem d_Law_law_224 : decode code 224 = .ok (.aload_n 0, 1) := by decide +kernel
theorem d_Law_law_225 : decode code 225 = .ok (.iload_n 3, 1) := by decide +kernel
theorem d_Law_law_226 : decode code 226 = .ok (.iconst 2, 1) := by decide +kernel
theorem d_Law_law_227 : decode code 227 = .ok (.iadd, 1) := by decide +kernel
theorem d_Law_law_228 : decode code 228 = .ok (.iaload, 1) := by decide +kernel
theorem d_Law_law_229 : decode code 229 = .ok (.aload_n 0, 1) := by decide +kernel
theorem d_Law_law_230 : decode code 230 = .ok (.iload_n 3, 1) := by decide +kernel
theorem d_Law_law_231 : decode code 231 = .ok (.iconst 3, 1) := by decide +kernel
theorem d_Law_law_232 : decode code 232 = .ok (.iadd, 1) := by decide +kernel
theorem d_Law_law_233 : decode code 233 = .ok (.iaload, 1) := by decide +kernel
theorem d_Law_law_234 : decode code 234 = .ok (.invokevirtual 24, 3) := by decide +kernel
theorem d_Law_law_237 : decode code 237 = .ok (.if_icmp .eq 419, 3) := by decide +kernel
theorem d_Law_law_240 : decode code 240 = .ok (.iconst 0, 1) := by decide +kernel
theorem d_Law_law_241 : decode code 241 = .ok (.ireturn, 1) := by decide +kernel
theorem d_Law_law_242 : decode code 242 = .ok (.aload_n 1, 1) := by decide +kernel
theorem d_Law_law_243 : decode code 243 = .ok (.aload_n 0, 1) := by decide +kernel
theorem d_Law_law_244 : decode code 244 = .ok (.iload_n 3, 1) := by decide +kernel
theorem d_Law_law_245 : decode code 245 = .ok (.iconst 1, 1) := by decide +kernel
theorem d_Law_law_246 : decode code 246 = .ok (.iadd, 1) := by decide +kernel
theorem d_Law_law_247 : decode code 247 = .ok (.iaload, 1) := by decide +kernel
theorem d_Law_law_248 : decode code 248 = .ok (.aload_n 0, 1) := by decide +kernel
theorem d_Law_law_249 : decode code 249 = .ok (.iload_n 3, 1) := by decide +kernel
theorem d_Law_law_250 : decode code 250 = .ok (.iconst 2, 1) := by decide +kernel
theorem d_Law_law_251 : decode code 251 = .ok (.iadd, 1) := by decide +kernel
theorem d_Law_law_252 : decode code 252 = .ok (.iaload, 1) := by decide +kernel
theorem d_Law_law_253 : decode code 253 = .ok (.aload_n 0, 1) := by decide +kernel
theorem d_Law_law_254 : decode code 254 = .ok (.iload_n 3, 1) := by decide +kernel
theorem d_Law_law_255 : decode code 255 = .ok (.iconst 3, 1) := by decide +kernel
theorem d_Law_law_256 : decode code 256 = .ok (.iadd, 1) := by decide +kernel
theorem d_Law_law_257 : decode code 257 = .ok (.iaload, 1) := by decide +kernel
theorem d_Law_law_258 : decode code 258 = .ok (.i2l, 1) := by decide +kernel
theorem d_Law_law_259 : decode code 259 = .ok (.bipush 32, 2) := by decide +kernel
theorem d_Law_law_261 : decode code 261 = .ok (.lshl, 1) := by decide +kernel
theorem d_Law_law_262 : decode code 262 = .ok (.aload_n 0, 1) := by decide +kernel
theorem d_Law_law_263 : decode code 263 = .ok (.iload_n 3, 1) := by decide +kernel
theorem d_Law_law_264 : decode code 264 = .ok (.iconst 4, 1) := by decide +kernel
theorem d_Law_law_265 : decode code 265 = .ok (.iadd, 1) := by decide +kernel
theorem d_Law_law_266 : decode code 266 = .ok (.iaload, 1) := by decide +kernel
theorem d_Law_law_267 : decode code 267 = .ok (.i2l, 1) := by decide +kernel
theorem d_Law_law_268 : decode code 268 = .ok (.ldc2_w 13, 3) := by decide +kernel
theorem d_Law_law_271 : decode code 271 = .ok (.land, 1) := by decide +kernel
theorem d_Law_law_272 : decode code 272 = .ok (.lor, 1) := by decide +kernel
theorem d_Law_law_273 : decode code 273 = .ok (.invokevirtual 25, 3) := by decide +kernel
theorem d_Law_law_276 : decode code 276 = .ok (.aload_n 2, 1) := by decide +kernel
theorem d_Law_law_277 : decode code 277 = .ok (.aload_n 0, 1) := by decide +kernel
theorem d_Law_law_278 : decode code 278 = .ok (.iload_n 3, 1) := by decide +kernel
theorem d_Law_law_279 : decode code 279 = .ok (.iconst 1, 1) := by decide +kernel
theorem d_Law_law_280 : decode code 280 = .ok (.iadd, 1) := by decide +kernel
theorem d_Law_law_281 : decode code 281 = .ok (.iaload, 1) := by decide +kernel
theorem d_Law_law_282 : decode code 282 = .ok (.aload_n 0, 1) := by decide +kernel
theorem d_Law_law_283 : decode code 283 = .ok (.iload_n 3, 1) := by decide +kernel
theorem d_Law_law_284 : decode code 284 = .ok (.iconst 2, 1) := by decide +kernel
theorem d_Law_law_285 : decode code 285 = .ok (.iadd, 1) := by decide +kernel
theorem d_Law_law_286 : decode code 286 = .ok (.iaload, 1) := by decide +kernel
theorem d_Law_law_287 : decode code 287 = .ok (.aload_n 0, 1) := by decide +kernel
theorem d_Law_law_288 : decode code 288 = .ok (.iload_n 3, 1) := by decide +kernel
theorem d_Law_law_289 : decode code 289 = .ok (.iconst 3, 1) := by decide +kernel
theorem d_Law_law_290 : decode code 290 = .ok (.iadd, 1) := by decide +kernel
theorem d_Law_law_291 : decode code 291 = .ok (.iaload, 1) := by decide +kernel
theorem d_Law_law_292 : decode code 292 = .ok (.i2l, 1) := by decide +kernel
theorem d_Law_law_293 : decode code 293 = .ok (.bipush 32, 2) := by decide +kernel
theorem d_Law_law_295 : decode code 295 = .ok (.lshl, 1) := by decide +kernel
theorem d_Law_law_296 : decode code 296 = .ok (.aload_n 0, 1) := by decide +kernel
theorem d_Law_law_297 : decode code 297 = .ok (.iload_n 3, 1) := by decide +kernel
theorem d_Law_law_298 : decode code 298 = .ok (.iconst 4, 1) := by decide +kernel
theorem d_Law_law_299 : decode code 299 = .ok (.iadd, 1) := by decide +kernel
theorem d_Law_law_300 : decode code 300 = .ok (.iaload, 1) := by decide +kernel
theorem d_Law_law_301 : decode code 301 = .ok (.i2l, 1) := by decide +kernel
theorem d_Law_law_302 : decode code 302 = .ok (.ldc2_w 13, 3) := by decide +kernel
theorem d_Law_law_305 : decode code 305 = .ok (.land, 1) := by decide +kernel
theorem d_Law_law_306 : decode code 306 = .ok (.lor, 1) := by decide +kernel
theorem d_Law_law_307 : decode code 307 = .ok (.invokevirtual 29, 3) := by decide +kernel
theorem d_Law_law_310 : decode code 310 = .ok (.if_icmp .eq 346, 3) := by decide +kernel
theorem d_Law_law_313 : decode code 313 = .ok (.iconst 0, 1) := by decide +kernel
theorem d_Law_law_314 : decode code 314 = .ok (.ireturn, 1) := by decide +kernel
theorem d_Law_law_315 : decode code 315 = .ok (.aload_n 1, 1) := by decide +kernel
theorem d_Law_law_316 : decode code 316 = .ok (.invokevirtual 30, 3) := by decide +kernel
theorem d_Law_law_319 : decode code 319 = .ok (.aload_n 2, 1) := by decide +kernel
theorem d_Law_law_320 : decode code 320 = .ok (.invokevirtual 33, 3) := by decide +kernel
theorem d_Law_law_323 : decode code 323 = .ok (.goto 333, 3) := by decide +kernel
theorem d_Law_law_326 : decode code 326 = .ok (.aload_n 1, 1) := by decide +kernel
theorem d_Law_law_327 : decode code 327 = .ok (.aload_n 0, 1) := by decide +kernel
theorem d_Law_law_328 : decode code 328 = .ok (.iload_n 3, 1) := by decide +kernel
theorem d_Law_law_329 : decode code 329 = .ok (.iconst 1, 1) := by decide +kernel
theorem d_Law_law_330 : decode code 330 = .ok (.iadd, 1) := by decide +kernel
theorem d_Law_law_331 : decode code 331 = .ok (.iaload, 1) := by decide +kernel
theorem d_Law_law_332 : decode code 332 = .ok (.invokevirtual 34, 3) := by decide +kernel
theorem d_Law_law_335 : decode code 335 = .ok (.aload_n 2, 1) := by decide +kernel
theorem d_Law_law_336 : decode code 336 = .ok (.aload_n 0, 1) := by decide +kernel
theorem d_Law_law_337 : decode code 337 = .ok (.iload_n 3, 1) := by decide +kernel
theorem d_Law_law_338 : decode code 338 = .ok (.iconst 1, 1) := by decide +kernel
theorem d_Law_law_339 : decode code 339 = .ok (.iadd, 1) := by decide +kernel
theorem d_Law_law_340 : decode code 340 = .ok (.iaload, 1) := by decide +kernel
theorem d_Law_law_341 : decode code 341 = .ok (.invokevirtual 38, 3) := by decide +kernel
theorem d_Law_law_344 : decode code 344 = .ok (.if_icmp .eq 312, 3) := by decide +kernel
theorem d_Law_law_347 : decode code 347 = .ok (.iconst 0, 1) := by decide +kernel
theorem d_Law_law_348 : decode code 348 = .ok (.ireturn, 1) := by decide +kernel
theorem d_Law_law_349 : decode code 349 = .ok (.aload_n 1, 1) := by decide +kernel
theorem d_Law_law_350 : decode code 350 = .ok (.invokevirtual 39, 3) := by decide +kernel
theorem d_Law_law_353 : decode code 353 = .ok (.aload_n 2, 1) := by decide +kernel
theorem d_Law_law_354 : decode code 354 = .ok (.invokevirtual 43, 3) := by decide +kernel
theorem d_Law_law_357 : decode code 357 = .ok (.if_icmp .eq 299, 3) := by decide +kernel
theorem d_Law_law_360 : decode code 360 = .ok (.iconst 0, 1) := by decide +kernel
theorem d_Law_law_361 : decode code 361 = .ok (.ireturn, 1) := by decide +kernel
theorem d_Law_law_362 : decode code 362 = .ok (.aload_n 1, 1) := by decide +kernel
theorem d_Law_law_363 : decode code 363 = .ok (.aload_n 0, 1) := by decide +kernel
theorem d_Law_law_364 : decode code 364 = .ok (.iload_n 3, 1) := by decide +kernel
theorem d_Law_law_365 : decode code 365 = .ok (.iconst 1, 1) := by decide +kernel
theorem d_Law_law_366 : decode code 366 = .ok (.iadd, 1) := by decide +kernel
theorem d_Law_law_367 : decode code 367 = .ok (.iaload, 1) := by decide +kernel
theorem d_Law_law_368 : decode code 368 = .ok (.invokevirtual 44, 3) := by decide +kernel
theorem d_Law_law_371 : decode code 371 = .ok (.aload_n 2, 1) := by decide +kernel
theorem d_Law_law_372 : decode code 372 = .ok (.aload_n 0, 1) := by decide +kernel
theorem d_Law_law_373 : decode code 373 = .ok (.iload_n 3, 1) := by decide +kernel
theorem d_Law_law_374 : decode code 374 = .ok (.iconst 1, 1) := by decide +kernel
theorem d_Law_law_375 : decode code 375 = .ok (.iadd, 1) := by decide +kernel
theorem d_Law_law_376 : decode code 376 = .ok (.iaload, 1) := by decide +kernel
theorem d_Law_law_377 : decode code 377 = .ok (.invokevirtual 47, 3) := by decide +kernel
theorem d_Law_law_380 : decode code 380 = .ok (.if_icmp .eq 276, 3) := by decide +kernel
theorem d_Law_law_383 : decode code 383 = .ok (.iconst 0, 1) := by decide +kernel
theorem d_Law_law_384 : decode code 384 = .ok (.ireturn, 1) := by decide +kernel
theorem d_Law_law_385 : decode code 385 = .ok (.aload_n 1, 1) := by decide +kernel
theorem d_Law_law_386 : decode code 386 = .ok (.aload_n 0, 1) := by decide +kernel
theorem d_Law_law_387 : decode code 387 = .ok (.iload_n 3, 1) := by decide +kernel
theorem d_Law_law_388 : decode code 388 = .ok (.iconst 1, 1) := by decide +kernel
theorem d_Law_law_389 : decode code 389 = .ok (.iadd, 1) := by decide +kernel
theorem d_Law_law_390 : decode code 390 = .ok (.iaload, 1) := by decide +kernel
theorem d_Law_law_391 : decode code 391 = .ok (.aload_n 0, 1) := by decide +kernel
theorem d_Law_law_392 : decode code 392 = .ok (.iload_n 3, 1) := by decide +kernel
theorem d_Law_law_393 : decode code 393 = .ok (.iconst 2, 1) := by decide +kernel
theorem d_Law_law_394 : decode code 394 = .ok (.iadd, 1) := by decide +kernel
theorem d_Law_law_395 : decode code 395 = .ok (.iaload, 1) := by decide +kernel
theorem d_Law_law_396 : decode code 396 = .ok (.invokevirtual 48, 3) := by decide +kernel
theorem d_Law_law_399 : decode code 399 = .ok (.aload_n 2, 1) := by decide +kernel
theorem d_Law_law_400 : decode code 400 = .ok (.aload_n 0, 1) := by decide +kernel
theorem d_Law_law_401 : decode code 401 = .ok (.iload_n 3, 1) := by decide +kernel
theorem d_Law_law_402 : decode code 402 = .ok (.iconst 1, 1) := by decide +kernel
theorem d_Law_law_403 : decode code 403 = .ok (.iadd, 1) := by decide +kernel
theorem d_Law_law_404 : decode code 404 = .ok (.iaload, 1) := by decide +kernel
theorem d_Law_law_405 : decode code 405 = .ok (.aload_n 0, 1) := by decide +kernel
theorem d_Law_law_406 : decode code 406 = .ok (.iload_n 3, 1) := by decide +kernel
theorem d_Law_law_407 : decode code 407 = .ok (.iconst 2, 1) := by decide +kernel
theorem d_Law_law_408 : decode code 408 = .ok (.iadd, 1) := by decide +kernel
theorem d_Law_law_409 : decode code 409 = .ok (.iaload, 1) := by decide +kernel
theorem d_Law_law_410 : decode code 410 = .ok (.invokevirtual 52, 3) := by decide +kernel
theorem d_Law_law_413 : decode code 413 = .ok (.if_icmp .eq 243, 3) := by decide +kernel
theorem d_Law_law_416 : decode code 416 = .ok (.iconst 0, 1) := by decide +kernel
theorem d_Law_law_417 : decode code 417 = .ok (.ireturn, 1) := by decide +kernel
theorem d_Law_law_418 : decode code 418 = .ok (.aload_n 1, 1) := by decide +kernel
theorem d_Law_law_419 : decode code 419 = .ok (.aload_n 0, 1) := by decide +kernel
theorem d_Law_law_420 : decode code 420 = .ok (.iload_n 3, 1) := by decide +kernel
theorem d_Law_law_421 : decode code 421 = .ok (.iconst 1, 1) := by decide +kernel
theorem d_Law_law_422 : decode code 422 = .ok (.iadd, 1) := by decide +kernel
theorem d_Law_law_423 : decode code 423 = .ok (.iaload, 1) := by decide +kernel
theorem d_Law_law_424 : decode code 424 = .ok (.invokevirtual 53, 3) := by decide +kernel
theorem d_Law_law_427 : decode code 427 = .ok (.aload_n 2, 1) := by decide +kernel
theorem d_Law_law_428 : decode code 428 = .ok (.aload_n 0, 1) := by decide +kernel
theorem d_Law_law_429 : decode code 429 = .ok (.iload_n 3, 1) := by decide +kernel
theorem d_Law_law_430 : decode code 430 = .ok (.iconst 1, 1) := by decide +kernel
theorem d_Law_law_431 : decode code 431 = .ok (.iadd, 1) := by decide +kernel
theorem d_Law_law_432 : decode code 432 = .ok (.iaload, 1) := by decide +kernel
theorem d_Law_law_433 : decode code 433 = .ok (.invokevirtual 57, 3) := by decide +kernel
theorem d_Law_law_436 : decode code 436 = .ok (.if_icmp .eq 220, 3) := by decide +kernel
theorem d_Law_law_439 : decode code 439 = .ok (.iconst 0, 1) := by decide +kernel
theorem d_Law_law_440 : decode code 440 = .ok (.ireturn, 1) := by decide +kernel
theorem d_Law_law_441 : decode code 441 = .ok (.aload_n 1, 1) := by decide +kernel
theorem d_Law_law_442 : decode code 442 = .ok (.invokevirtual 58, 3) := by decide +kernel
theorem d_Law_law_445 : decode code 445 = .ok (.aload_n 2, 1) := by decide +kernel
theorem d_Law_law_446 : decode code 446 = .ok (.invokevirtual 61, 3) := by decide +kernel
theorem d_Law_law_449 : decode code 449 = .ok (.if_icmp .eq 207, 3) := by decide +kernel
theorem d_Law_law_452 : decode code 452 = .ok (.iconst 0, 1) := by decide +kernel
theorem d_Law_law_453 : decode code 453 = .ok (.ireturn, 1) := by decide +kernel
theorem d_Law_law_454 : decode code 454 = .ok (.aload_n 1, 1) := by decide +kernel
theorem d_Law_law_455 : decode code 455 = .ok (.aload_n 0, 1) := by decide +kernel
theorem d_Law_law_456 : decode code 456 = .ok (.iload_n 3, 1) := by decide +kernel
theorem d_Law_law_457 : decode code 457 = .ok (.iconst 1, 1) := by decide +kernel
theorem d_Law_law_458 : decode code 458 = .ok (.iadd, 1) := by decide +kernel
theorem d_Law_law_459 : decode code 459 = .ok (.iaload, 1) := by decide +kernel
theorem d_Law_law_460 : decode code 460 = .ok (.aload_n 0, 1) := by decide +kernel
theorem d_Law_law_461 : decode code 461 = .ok (.iload_n 3, 1) := by decide +kernel
theorem d_Law_law_462 : decode code 462 = .ok (.iconst 2, 1) := by decide +kernel
theorem d_Law_law_463 : decode code 463 = .ok (.iadd, 1) := by decide +kernel
theorem d_Law_law_464 : decode code 464 = .ok (.iaload, 1) := by decide +kernel
theorem d_Law_law_465 : decode code 465 = .ok (.invokevirtual 62, 3) := by decide +kernel
theorem d_Law_law_468 : decode code 468 = .ok (.aload_n 2, 1) := by decide +kernel
theorem d_Law_law_469 : decode code 469 = .ok (.aload_n 0, 1) := by decide +kernel
theorem d_Law_law_470 : decode code 470 = .ok (.iload_n 3, 1) := by decide +kernel
theorem d_Law_law_471 : decode code 471 = .ok (.iconst 1, 1) := by decide +kernel
theorem d_Law_law_472 : decode code 472 = .ok (.iadd, 1) := by decide +kernel
theorem d_Law_law_473 : decode code 473 = .ok (.iaload, 1) := by decide +kernel
theorem d_Law_law_474 : decode code 474 = .ok (.aload_n 0, 1) := by decide +kernel
theorem d_Law_law_475 : decode code 475 = .ok (.iload_n 3, 1) := by decide +kernel
theorem d_Law_law_476 : decode code 476 = .ok (.iconst 2, 1) := by decide +kernel
theorem d_Law_law_477 : decode code 477 = .ok (.iadd, 1) := by decide +kernel
theorem d_Law_law_478 : decode code 478 = .ok (.iaload, 1) := by decide +kernel
theorem d_Law_law_479 : decode code 479 = .ok (.invokevirtual 66, 3) := by decide +kernel
theorem d_Law_law_482 : decode code 482 = .ok (.if_icmp .eq 174, 3) := by decide +kernel
theorem d_Law_law_485 : decode code 485 = .ok (.iconst 0, 1) := by decide +kernel
theorem d_Law_law_486 : decode code 486 = .ok (.ireturn, 1) := by decide +kernel
theorem d_Law_law_487 : decode code 487 = .ok (.aload_n 1, 1) := by decide +kernel
theorem d_Law_law_488 : decode code 488 = .ok (.aload_n 0, 1) := by decide +kernel
theorem d_Law_law_489 : decode code 489 = .ok (.iload_n 3, 1) := by decide +kernel
theorem d_Law_law_490 : decode code 490 = .ok (.iconst 1, 1) := by decide +kernel
theorem d_Law_law_491 : decode code 491 = .ok (.iadd, 1) := by decide +kernel
theorem d_Law_law_492 : decode code 492 = .ok (.iaload, 1) := by decide +kernel
theorem d_Law_law_493 : decode code 493 = .ok (.aload_n 0, 1) := by decide +kernel
theorem d_Law_law_494 : decode code 494 = .ok (.iload_n 3, 1) := by decide +kernel
theorem d_Law_law_495 : decode code 495 = .ok (.iconst 2, 1) := by decide +kernel
theorem d_Law_law_496 : decode code 496 = .ok (.iadd, 1) := by decide +kernel
theorem d_Law_law_497 : decode code 497 = .ok (.iaload, 1) := by decide +kernel
theorem d_Law_law_498 : decode code 498 = .ok (.invokevirtual 67, 3) := by decide +kernel
theorem d_Law_law_501 : decode code 501 = .ok (.aload_n 2, 1) := by decide +kernel
theorem d_Law_law_502 : decode code 502 = .ok (.aload_n 0, 1) := by decide +kernel
theorem d_Law_law_503 : decode code 503 = .ok (.iload_n 3, 1) := by decide +kernel
theorem d_Law_law_504 : decode code 504 = .ok (.iconst 1, 1) := by decide +kernel
theorem d_Law_law_505 : decode code 505 = .ok (.iadd, 1) := by decide +kernel
theorem d_Law_law_506 : decode code 506 = .ok (.iaload, 1) := by decide +kernel
theorem d_Law_law_507 : decode code 507 = .ok (.aload_n 0, 1) := by decide +kernel
theorem d_Law_law_508 : decode code 508 = .ok (.iload_n 3, 1) := by decide +kernel
theorem d_Law_law_509 : decode code 509 = .ok (.iconst 2, 1) := by decide +kernel
theorem d_Law_law_510 : decode code 510 = .ok (.iadd, 1) := by decide +kernel
theorem d_Law_law_511 : decode code 511 = .ok (.iaload, 1) := by decide +kernel
theorem d_Law_law_512 : decode code 512 = .ok (.invokevirtual 70, 3) := by decide +kernel
theorem d_Law_law_515 : decode code 515 = .ok (.if_icmp .eq 141, 3) := by decide +kernel
theorem d_Law_law_518 : decode code 518 = .ok (.iconst 0, 1) := by decide +kernel
theorem d_Law_law_519 : decode code 519 = .ok (.ireturn, 1) := by decide +kernel
theorem d_Law_law_520 : decode code 520 = .ok (.aload_n 1, 1) := by decide +kernel
theorem d_Law_law_521 : decode code 521 = .ok (.aload_n 0, 1) := by decide +kernel
theorem d_Law_law_522 : decode code 522 = .ok (.iload_n 3, 1) := by decide +kernel
theorem d_Law_law_523 : decode code 523 = .ok (.iconst 1, 1) := by decide +kernel
theorem d_Law_law_524 : decode code 524 = .ok (.iadd, 1) := by decide +kernel
theorem d_Law_law_525 : decode code 525 = .ok (.iaload, 1) := by decide +kernel
theorem d_Law_law_526 : decode code 526 = .ok (.aload_n 0, 1) := by decide +kernel
theorem d_Law_law_527 : decode code 527 = .ok (.iload_n 3, 1) := by decide +kernel
theorem d_Law_law_528 : decode code 528 = .ok (.iconst 2, 1) := by decide +kernel
theorem d_Law_law_529 : decode code 529 = .ok (.iadd, 1) := by decide +kernel
theorem d_Law_law_530 : decode code 530 = .ok (.iaload, 1) := by decide +kernel
theorem d_Law_law_531 : decode code 531 = .ok (.aload_n 0, 1) := by decide +kernel
theorem d_Law_law_532 : decode code 532 = .ok (.iload_n 3, 1) := by decide +kernel
theorem d_Law_law_533 : decode code 533 = .ok (.iconst 3, 1) := by decide +kernel
theorem d_Law_law_534 : decode code 534 = .ok (.iadd, 1) := by decide +kernel
theorem d_Law_law_535 : decode code 535 = .ok (.iaload, 1) := by decide +kernel
theorem d_Law_law_536 : decode code 536 = .ok (.invokevirtual 71, 3) := by decide +kernel
theorem d_Law_law_539 : decode code 539 = .ok (.aload_n 2, 1) := by decide +kernel
theorem d_Law_law_540 : decode code 540 = .ok (.aload_n 0, 1) := by decide +kernel
theorem d_Law_law_541 : decode code 541 = .ok (.iload_n 3, 1) := by decide +kernel
theorem d_Law_law_542 : decode code 542 = .ok (.iconst 1, 1) := by decide +kernel
theorem d_Law_law_543 : decode code 543 = .ok (.iadd, 1) := by decide +kernel
theorem d_Law_law_544 : decode code 544 = .ok (.iaload, 1) := by decide +kernel
theorem d_Law_law_545 : decode code 545 = .ok (.aload_n 0, 1) := by decide +kernel
theorem d_Law_law_546 : decode code 546 = .ok (.iload_n 3, 1) := by decide +kernel
theorem d_Law_law_547 : decode code 547 = .ok (.iconst 2, 1) := by decide +kernel
theorem d_Law_law_548 : decode code 548 = .ok (.iadd, 1) := by decide +kernel
theorem d_Law_law_549 : decode code 549 = .ok (.iaload, 1) := by decide +kernel
theorem d_Law_law_550 : decode code 550 = .ok (.aload_n 0, 1) := by decide +kernel
theorem d_Law_law_551 : decode code 551 = .ok (.iload_n 3, 1) := by decide +kernel
theorem d_Law_law_552 : decode code 552 = .ok (.iconst 3, 1) := by decide +kernel
theorem d_Law_law_553 : decode code 553 = .ok (.iadd, 1) := by decide +kernel
theorem d_Law_law_554 : decode code 554 = .ok (.iaload, 1) := by decide +kernel
theorem d_Law_law_555 : decode code 555 = .ok (.invokevirtual 74, 3) := by decide +kernel
theorem d_Law_law_558 : decode code 558 = .ok (.if_icmp .eq 98, 3) := by decide +kernel
theorem d_Law_law_561 : decode code 561 = .ok (.iconst 0, 1) := by decide +kernel
theorem d_Law_law_562 : decode code 562 = .ok (.ireturn, 1) := by decide +kernel
theorem d_Law_law_563 : decode code 563 = .ok (.aload_n 1, 1) := by decide +kernel
theorem d_Law_law_564 : decode code 564 = .ok (.aload_n 0, 1) := by decide +kernel
theorem d_Law_law_565 : decode code 565 = .ok (.iload_n 3, 1) := by decide +kernel
theorem d_Law_law_566 : decode code 566 = .ok (.iconst 1, 1) := by decide +kernel
theorem d_Law_law_567 : decode code 567 = .ok (.iadd, 1) := by decide +kernel
theorem d_Law_law_568 : decode code 568 = .ok (.iaload, 1) := by decide +kernel
theorem d_Law_law_569 : decode code 569 = .ok (.aload_n 0, 1) := by decide +kernel
theorem d_Law_law_570 : decode code 570 = .ok (.iload_n 3, 1) := by decide +kernel
theorem d_Law_law_571 : decode code 571 = .ok (.iconst 2, 1) := by decide +kernel
theorem d_Law_law_572 : decode code 572 = .ok (.iadd, 1) := by decide +kernel
theorem d_Law_law_573 : decode code 573 = .ok (.iaload, 1) := by decide +kernel
theorem d_Law_law_574 : decode code 574 = .ok (.aload_n 0, 1) := by decide +kernel
theorem d_Law_law_575 : decode code 575 = .ok (.iload_n 3, 1) := by decide +kernel
theorem d_Law_law_576 : decode code 576 = .ok (.iconst 3, 1) := by decide +kernel
theorem d_Law_law_577 : decode code 577 = .ok (.iadd, 1) := by decide +kernel
theorem d_Law_law_578 : decode code 578 = .ok (.iaload, 1) := by decide +kernel
theorem d_Law_law_579 : decode code 579 = .ok (.invokevirtual 75, 3) := by decide +kernel
theorem d_Law_law_582 : decode code 582 = .ok (.aload_n 2, 1) := by decide +kernel
theorem d_Law_law_583 : decode code 583 = .ok (.aload_n 0, 1) := by decide +kernel
theorem d_Law_law_584 : decode code 584 = .ok (.iload_n 3, 1) := by decide +kernel
theorem d_Law_law_585 : decode code 585 = .ok (.iconst 1, 1) := by decide +kernel
theorem d_Law_law_586 : decode code 586 = .ok (.iadd, 1) := by decide +kernel
theorem d_Law_law_587 : decode code 587 = .ok (.iaload, 1) := by decide +kernel
theorem d_Law_law_588 : decode code 588 = .ok (.aload_n 0, 1) := by decide +kernel
theorem d_Law_law_589 : decode code 589 = .ok (.iload_n 3, 1) := by decide +kernel
theorem d_Law_law_590 : decode code 590 = .ok (.iconst 2, 1) := by decide +kernel
theorem d_Law_law_591 : decode code 591 = .ok (.iadd, 1) := by decide +kernel
theorem d_Law_law_592 : decode code 592 = .ok (.iaload, 1) := by decide +kernel
theorem d_Law_law_593 : decode code 593 = .ok (.aload_n 0, 1) := by decide +kernel
theorem d_Law_law_594 : decode code 594 = .ok (.iload_n 3, 1) := by decide +kernel
theorem d_Law_law_595 : decode code 595 = .ok (.iconst 3, 1) := by decide +kernel
theorem d_Law_law_596 : decode code 596 = .ok (.iadd, 1) := by decide +kernel
theorem d_Law_law_597 : decode code 597 = .ok (.iaload, 1) := by decide +kernel
theorem d_Law_law_598 : decode code 598 = .ok (.invokevirtual 78, 3) := by decide +kernel
theorem d_Law_law_601 : decode code 601 = .ok (.if_icmp .eq 55, 3) := by decide +kernel
theorem d_Law_law_604 : decode code 604 = .ok (.iconst 0, 1) := by decide +kernel
theorem d_Law_law_605 : decode code 605 = .ok (.ireturn, 1) := by decide +kernel
theorem d_Law_law_606 : decode code 606 = .ok (.aload_n 1, 1) := by decide +kernel
theorem d_Law_law_607 : decode code 607 = .ok (.invokevirtual 79, 3) := by decide +kernel
theorem d_Law_law_610 : decode code 610 = .ok (.aload_n 2, 1) := by decide +kernel
theorem d_Law_law_611 : decode code 611 = .ok (.invokevirtual 82, 3) := by decide +kernel
theorem d_Law_law_614 : decode code 614 = .ok (.if_icmp .eq 42, 3) := by decide +kernel
theorem d_Law_law_617 : decode code 617 = .ok (.iconst 0, 1) := by decide +kernel
theorem d_Law_law_618 : decode code 618 = .ok (.ireturn, 1) := by decide +kernel
theorem d_Law_law_619 : decode code 619 = .ok (.aload_n 1, 1) := by decide +kernel
theorem d_Law_law_620 : decode code 620 = .ok (.aload_n 0, 1) := by decide +kernel
theorem d_Law_law_621 : decode code 621 = .ok (.iload_n 3, 1) := by decide +kernel
theorem d_Law_law_622 : decode code 622 = .ok (.iconst 1, 1) := by decide +kernel
theorem d_Law_law_623 : decode code 623 = .ok (.iadd, 1) := by decide +kernel
theorem d_Law_law_624 : decode code 624 = .ok (.iaload, 1) := by decide +kernel
theorem d_Law_law_625 : decode code 625 = .ok (.invokevirtual 83, 3) := by decide +kernel
theorem d_Law_law_628 : decode code 628 = .ok (.aload_n 2, 1) := by decide +kernel
theorem d_Law_law_629 : decode code 629 = .ok (.aload_n 0, 1) := by decide +kernel
theorem d_Law_law_630 : decode code 630 = .ok (.iload_n 3, 1) := by decide +kernel
theorem d_Law_law_631 : decode code 631 = .ok (.iconst 1, 1) := by decide +kernel
theorem d_Law_law_632 : decode code 632 = .ok (.iadd, 1) := by decide +kernel
theorem d_Law_law_633 : decode code 633 = .ok (.iaload, 1) := by decide +kernel
theorem d_Law_law_634 : decode code 634 = .ok (.invokevirtual 87, 3) := by decide +kernel
theorem d_Law_law_637 : decode code 637 = .ok (.lcmp, 1) := by decide +kernel
theorem d_Law_law_638 : decode code 638 = .ok (.ifCond .eq 18, 3) := by decide +kernel
theorem d_Law_law_641 : decode code 641 = .ok (.iconst 0, 1) := by decide +kernel
theorem d_Law_law_642 : decode code 642 = .ok (.ireturn, 1) := by decide +kernel
theorem d_Law_law_643 : decode code 643 = .ok (.aload_n 1, 1) := by decide +kernel
theorem d_Law_law_644 : decode code 644 = .ok (.invokevirtual 88, 3) := by decide +kernel
theorem d_Law_law_647 : decode code 647 = .ok (.aload_n 2, 1) := by decide +kernel
theorem d_Law_law_648 : decode code 648 = .ok (.invokevirtual 91, 3) := by decide +kernel
theorem d_Law_law_651 : decode code 651 = .ok (.if_icmp .eq 5, 3) := by decide +kernel
theorem d_Law_law_654 : decode code 654 = .ok (.iconst 0, 1) := by decide +kernel
theorem d_Law_law_655 : decode code 655 = .ok (.ireturn, 1) := by decide +kernel
theorem d_Law_law_656 : decode code 656 = .ok (.iinc 3 6, 3) := by decide +kernel
theorem d_Law_law_659 : decode code 659 = .ok (.goto (-641), 3) := by decide +kernel
theorem d_Law_law_662 : decode code 662 = .ok (.iconst 1, 1) := by decide +kernel
theorem d_Law_law_663 : decode code 663 = .ok (.ireturn, 1) := by decide +kernel
