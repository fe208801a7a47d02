theorem d_Md_put_0 : decode b_Md_put 0 = .ok (.aload_n 0, 1) := by decide +kernel
theorem d_Md_put_1 : decode b_Md_put 1 = .ok (.getfield 32, 3) := by decide +kernel
theorem d_Md_put_4 : decode b_Md_put 4 = .ok (.aload_n 0, 1) := by decide +kernel
theorem d_Md_put_5 : decode b_Md_put 5 = .ok (.getfield 120, 3) := by decide +kernel
theorem d_Md_put_8 : decode b_Md_put 8 = .ok (.iload_n 1, 1) := by decide +kernel
theorem d_Md_put_9 : decode b_Md_put 9 = .ok (.iastore, 1) := by decide +kernel
theorem d_Md_put_10 : decode b_Md_put 10 = .ok (.aload_n 0, 1) := by decide +kernel
theorem d_Md_put_11 : decode b_Md_put 11 = .ok (.dup, 1) := by decide +kernel
theorem d_Md_put_12 : decode b_Md_put 12 = .ok (.getfield 120, 3) := by decide +kernel
theorem d_Md_put_15 : decode b_Md_put 15 = .ok (.iconst 1, 1) := by decide +kernel
theorem d_Md_put_16 : decode b_Md_put 16 = .ok (.iadd, 1) := by decide +kernel
theorem d_Md_put_17 : decode b_Md_put 17 = .ok (.putfield 120, 3) := by decide +kernel
theorem d_Md_put_20 : decode b_Md_put 20 = .ok (.return_, 1) := by decide +kernel
theorem d_Md_putCode_0 : decode b_Md_putCode 0 = .ok (.bipush 16, 2) := by decide +kernel
theorem d_Md_putCode_2 : decode b_Md_putCode 2 = .ok (.aload_n 0, 1) := by decide +kernel
theorem d_Md_putCode_3 : decode b_Md_putCode 3 = .ok (.getfield 104, 3) := by decide +kernel
theorem d_Md_putCode_6 : decode b_Md_putCode 6 = .ok (.iadd, 1) := by decide +kernel
theorem d_Md_putCode_7 : decode b_Md_putCode 7 = .ok (.bipush 7, 2) := by decide +kernel
theorem d_Md_putCode_9 : decode b_Md_putCode 9 = .ok (.iadd, 1) := by decide +kernel
theorem d_Md_putCode_10 : decode b_Md_putCode 10 = .ok (.bipush 8, 2) := by decide +kernel
theorem d_Md_putCode_12 : decode b_Md_putCode 12 = .ok (.idiv, 1) := by decide +kernel
theorem d_Md_putCode_13 : decode b_Md_putCode 13 = .ok (.istore_n 1, 1) := by decide +kernel
theorem d_Md_putCode_14 : decode b_Md_putCode 14 = .ok (.iconst 0, 1) := by decide +kernel
theorem d_Md_putCode_15 : decode b_Md_putCode 15 = .ok (.istore_n 2, 1) := by decide +kernel
theorem d_Md_putCode_16 : decode b_Md_putCode 16 = .ok (.iload_n 2, 1) := by decide +kernel
theorem d_Md_putCode_17 : decode b_Md_putCode 17 = .ok (.iload_n 1, 1) := by decide +kernel
theorem d_Md_putCode_18 : decode b_Md_putCode 18 = .ok (.if_icmp .ge 49, 3) := by decide +kernel
theorem d_Md_putCode_21 : decode b_Md_putCode 21 = .ok (.iconst 0, 1) := by decide +kernel
theorem d_Md_putCode_22 : decode b_Md_putCode 22 = .ok (.istore_n 3, 1) := by decide +kernel
theorem d_Md_putCode_23 : decode b_Md_putCode 23 = .ok (.iconst 0, 1) := by decide +kernel
theorem d_Md_putCode_24 : decode b_Md_putCode 24 = .ok (.istore 4, 2) := by decide +kernel
theorem d_Md_putCode_26 : decode b_Md_putCode 26 = .ok (.iload 4, 2) := by decide +kernel
theorem d_Md_putCode_28 : decode b_Md_putCode 28 = .ok (.bipush 8, 2) := by decide +kernel
theorem d_Md_putCode_30 : decode b_Md_putCode 30 = .ok (.if_icmp .ge 26, 3) := by decide +kernel
theorem d_Md_putCode_33 : decode b_Md_putCode 33 = .ok (.iconst 2, 1) := by decide +kernel
theorem d_Md_putCode_34 : decode b_Md_putCode 34 = .ok (.iload_n 3, 1) := by decide +kernel
theorem d_Md_putCode_35 : decode b_Md_putCode 35 = .ok (.imul, 1) := by decide +kernel
theorem d_Md_putCode_36 : decode b_Md_putCode 36 = .ok (.aload_n 0, 1) := by decide +kernel
theorem d_Md_putCode_37 : decode b_Md_putCode 37 = .ok (.getfield 56, 3) := by decide +kernel
theorem d_Md_putCode_40 : decode b_Md_putCode 40 = .ok (.bipush 8, 2) := by decide +kernel
theorem d_Md_putCode_42 : decode b_Md_putCode 42 = .ok (.iload_n 2, 1) := by decide +kernel
theorem d_Md_putCode_43 : decode b_Md_putCode 43 = .ok (.imul, 1) := by decide +kernel
theorem d_Md_putCode_44 : decode b_Md_putCode 44 = .ok (.iload 4, 2) := by decide +kernel
theorem d_Md_putCode_46 : decode b_Md_putCode 46 = .ok (.iadd, 1) := by decide +kernel
theorem d_Md_putCode_47 : decode b_Md_putCode 47 = .ok (.iaload, 1) := by decide +kernel
theorem d_Md_putCode_48 : decode b_Md_putCode 48 = .ok (.iadd, 1) := by decide +kernel
theorem d_Md_putCode_49 : decode b_Md_putCode 49 = .ok (.istore_n 3, 1) := by decide +kernel
theorem d_Md_putCode_50 : decode b_Md_putCode 50 = .ok (.iinc 4 1, 3) := by decide +kernel
theorem d_Md_putCode_53 : decode b_Md_putCode 53 = .ok (.goto (-27), 3) := by decide +kernel
theorem d_Md_putCode_56 : decode b_Md_putCode 56 = .ok (.aload_n 0, 1) := by decide +kernel
theorem d_Md_putCode_57 : decode b_Md_putCode 57 = .ok (.iload_n 3, 1) := by decide +kernel
theorem d_Md_putCode_58 : decode b_Md_putCode 58 = .ok (.invokevirtual 123, 3) := by decide +kernel
theorem d_Md_putCode_61 : decode b_Md_putCode 61 = .ok (.iinc 2 1, 3) := by decide +kernel
theorem d_Md_putCode_64 : decode b_Md_putCode 64 = .ok (.goto (-48), 3) := by decide +kernel
theorem d_Md_putCode_67 : decode b_Md_putCode 67 = .ok (.return_, 1) := by decide +kernel
theorem d_Md_walk_0 : decode b_Md_walk 0 = .ok (.lconst 0, 1) := by decide +kernel
theorem d_Md_walk_1 : decode b_Md_walk 1 = .ok (.lstore 8, 2) := by decide +kernel
theorem d_Md_walk_3 : decode b_Md_walk 3 = .ok (.iconst 0, 1) := by decide +kernel
theorem d_Md_walk_4 : decode b_Md_walk 4 = .ok (.istore 10, 2) := by decide +kernel
theorem d_Md_walk_6 : decode b_Md_walk 6 = .ok (.iload 10, 2) := by decide +kernel
theorem d_Md_walk_8 : decode b_Md_walk 8 = .ok (.iload 4, 2) := by decide +kernel
theorem d_Md_walk_10 : decode b_Md_walk 10 = .ok (.if_icmp .ge 200, 3) := by decide +kernel
theorem d_Md_walk_13 : decode b_Md_walk 13 = .ok (.iconst 0, 1) := by decide +kernel
theorem d_Md_walk_14 : decode b_Md_walk 14 = .ok (.istore 11, 2) := by decide +kernel
theorem d_Md_walk_16 : decode b_Md_walk 16 = .ok (.iload 11, 2) := by decide +kernel
theorem d_Md_walk_18 : decode b_Md_walk 18 = .ok (.iload_n 3, 1) := by decide +kernel
theorem d_Md_walk_19 : decode b_Md_walk 19 = .ok (.if_icmp .ge 185, 3) := by decide +kernel
theorem d_Md_walk_22 : decode b_Md_walk 22 = .ok (.lload 8, 2) := by decide +kernel
theorem d_Md_walk_24 : decode b_Md_walk 24 = .ok (.iload 11, 2) := by decide +kernel
theorem d_Md_walk_26 : decode b_Md_walk 26 = .ok (.iconst 1, 1) := by decide +kernel
theorem d_Md_walk_27 : decode b_Md_walk 27 = .ok (.isub, 1) := by decide +kernel
theorem d_Md_walk_28 : decode b_Md_walk 28 = .ok (.iload 10, 2) := by decide +kernel
theorem d_Md_walk_30 : decode b_Md_walk 30 = .ok (.invokestatic 83, 3) := by decide +kernel
theorem d_Md_walk_33 : decode b_Md_walk 33 = .ok (.istore 12, 2) := by decide +kernel
theorem d_Md_walk_35 : decode b_Md_walk 35 = .ok (.iload 5, 2) := by decide +kernel
theorem d_Md_walk_37 : decode b_Md_walk 37 = .ok (.ifCond .eq 73, 3) := by decide +kernel
theorem d_Md_walk_40 : decode b_Md_walk 40 = .ok (.iload 12, 2) := by decide +kernel
theorem d_Md_walk_42 : decode b_Md_walk 42 = .ok (.bipush 16, 2) := by decide +kernel
theorem d_Md_walk_44 : decode b_Md_walk 44 = .ok (.iconst 2, 1) := by decide +kernel
theorem d_Md_walk_45 : decode b_Md_walk 45 = .ok (.lload 8, 2) := by decide +kernel
theorem d_Md_walk_47 : decode b_Md_walk 47 = .ok (.iload 11, 2) := by decide +kernel
theorem d_Md_walk_49 : decode b_Md_walk 49 = .ok (.iload 10, 2) := by decide +kernel
theorem d_Md_walk_51 : decode b_Md_walk 51 = .ok (.iconst 1, 1) := by decide +kernel
theorem d_Md_walk_52 : decode b_Md_walk 52 = .ok (.isub, 1) := by decide +kernel
theorem d_Md_walk_53 : decode b_Md_walk 53 = .ok (.invokestatic 83, 3) := by decide +kernel
theorem d_Md_walk_56 : decode b_Md_walk 56 = .ok (.imul, 1) := by decide +kernel
theorem d_Md_walk_57 : decode b_Md_walk 57 = .ok (.iadd, 1) := by decide +kernel
theorem d_Md_walk_58 : decode b_Md_walk 58 = .ok (.iconst 4, 1) := by decide +kernel
theorem d_Md_walk_59 : decode b_Md_walk 59 = .ok (.lload 6, 2) := by decide +kernel
theorem d_Md_walk_61 : decode b_Md_walk 61 = .ok (.iload 11, 2) := by decide +kernel
theorem d_Md_walk_63 : decode b_Md_walk 63 = .ok (.iload 10, 2) := by decide +kernel
theorem d_Md_walk_65 : decode b_Md_walk 65 = .ok (.invokestatic 83, 3) := by decide +kernel
theorem d_Md_walk_68 : decode b_Md_walk 68 = .ok (.imul, 1) := by decide +kernel
theorem d_Md_walk_69 : decode b_Md_walk 69 = .ok (.iadd, 1) := by decide +kernel
theorem d_Md_walk_70 : decode b_Md_walk 70 = .ok (.iadd, 1) := by decide +kernel
theorem d_Md_walk_71 : decode b_Md_walk 71 = .ok (.istore 12, 2) := by decide +kernel
theorem d_Md_walk_73 : decode b_Md_walk 73 = .ok (.iload 12, 2) := by decide +kernel
theorem d_Md_walk_75 : decode b_Md_walk 75 = .ok (.bipush 8, 2) := by decide +kernel
theorem d_Md_walk_77 : decode b_Md_walk 77 = .ok (.lload 6, 2) := by decide +kernel
theorem d_Md_walk_79 : decode b_Md_walk 79 = .ok (.iload 11, 2) := by decide +kernel
theorem d_Md_walk_81 : decode b_Md_walk 81 = .ok (.iconst 1, 1) := by decide +kernel
theorem d_Md_walk_82 : decode b_Md_walk 82 = .ok (.iadd, 1) := by decide +kernel
theorem d_Md_walk_83 : decode b_Md_walk 83 = .ok (.iload 10, 2) := by decide +kernel
theorem d_Md_walk_85 : decode b_Md_walk 85 = .ok (.invokestatic 83, 3) := by decide +kernel
theorem d_Md_walk_88 : decode b_Md_walk 88 = .ok (.imul, 1) := by decide +kernel
theorem d_Md_walk_89 : decode b_Md_walk 89 = .ok (.bipush 16, 2) := by decide +kernel
theorem d_Md_walk_91 : decode b_Md_walk 91 = .ok (.lload 6, 2) := by decide +kernel
theorem d_Md_walk_93 : decode b_Md_walk 93 = .ok (.iload 11, 2) := by decide +kernel
theorem d_Md_walk_95 : decode b_Md_walk 95 = .ok (.iload 10, 2) := by decide +kernel
theorem d_Md_walk_97 : decode b_Md_walk 97 = .ok (.iconst 1, 1) := by decide +kernel
theorem d_Md_walk_98 : decode b_Md_walk 98 = .ok (.iadd, 1) := by decide +kernel
theorem d_Md_walk_99 : decode b_Md_walk 99 = .ok (.invokestatic 83, 3) := by decide +kernel
theorem d_Md_walk_102 : decode b_Md_walk 102 = .ok (.imul, 1) := by decide +kernel
theorem d_Md_walk_103 : decode b_Md_walk 103 = .ok (.iadd, 1) := by decide +kernel
theorem d_Md_walk_104 : decode b_Md_walk 104 = .ok (.iadd, 1) := by decide +kernel
theorem d_Md_walk_105 : decode b_Md_walk 105 = .ok (.istore 12, 2) := by decide +kernel
theorem d_Md_walk_107 : decode b_Md_walk 107 = .ok (.goto 58, 3) := by decide +kernel
theorem d_Md_walk_110 : decode b_Md_walk 110 = .ok (.iload 12, 2) := by decide +kernel
theorem d_Md_walk_112 : decode b_Md_walk 112 = .ok (.iconst 2, 1) := by decide +kernel
theorem d_Md_walk_113 : decode b_Md_walk 113 = .ok (.lload 8, 2) := by decide +kernel
theorem d_Md_walk_115 : decode b_Md_walk 115 = .ok (.iload 11, 2) := by decide +kernel
theorem d_Md_walk_117 : decode b_Md_walk 117 = .ok (.iconst 1, 1) := by decide +kernel
theorem d_Md_walk_118 : decode b_Md_walk 118 = .ok (.isub, 1) := by decide +kernel
theorem d_Md_walk_119 : decode b_Md_walk 119 = .ok (.iload 10, 2) := by decide +kernel
theorem d_Md_walk_121 : decode b_Md_walk 121 = .ok (.iconst 1, 1) := by decide +kernel
theorem d_Md_walk_122 : decode b_Md_walk 122 = .ok (.isub, 1) := by decide +kernel
theorem d_Md_walk_123 : decode b_Md_walk 123 = .ok (.invokestatic 83, 3) := by decide +kernel
theorem d_Md_walk_126 : decode b_Md_walk 126 = .ok (.imul, 1) := by decide +kernel
theorem d_Md_walk_127 : decode b_Md_walk 127 = .ok (.iconst 4, 1) := by decide +kernel
theorem d_Md_walk_128 : decode b_Md_walk 128 = .ok (.lload 8, 2) := by decide +kernel
theorem d_Md_walk_130 : decode b_Md_walk 130 = .ok (.iload 11, 2) := by decide +kernel
theorem d_Md_walk_132 : decode b_Md_walk 132 = .ok (.iload 10, 2) := by decide +kernel
theorem d_Md_walk_134 : decode b_Md_walk 134 = .ok (.iconst 1, 1) := by decide +kernel
theorem d_Md_walk_135 : decode b_Md_walk 135 = .ok (.isub, 1) := by decide +kernel
theorem d_Md_walk_136 : decode b_Md_walk 136 = .ok (.invokestatic 83, 3) := by decide +kernel
theorem d_Md_walk_139 : decode b_Md_walk 139 = .ok (.imul, 1) := by decide +kernel
theorem d_Md_walk_140 : decode b_Md_walk 140 = .ok (.iadd, 1) := by decide +kernel
theorem d_Md_walk_141 : decode b_Md_walk 141 = .ok (.iadd, 1) := by decide +kernel
theorem d_Md_walk_142 : decode b_Md_walk 142 = .ok (.istore 12, 2) := by decide +kernel
theorem d_Md_walk_144 : decode b_Md_walk 144 = .ok (.iload 12, 2) := by decide +kernel
theorem d_Md_walk_146 : decode b_Md_walk 146 = .ok (.bipush 8, 2) := by decide +kernel
theorem d_Md_walk_148 : decode b_Md_walk 148 = .ok (.lload 8, 2) := by decide +kernel
theorem d_Md_walk_150 : decode b_Md_walk 150 = .ok (.iload 11, 2) := by decide +kernel
theorem d_Md_walk_152 : decode b_Md_walk 152 = .ok (.iconst 1, 1) := by decide +kernel
theorem d_Md_walk_153 : decode b_Md_walk 153 = .ok (.iadd, 1) := by decide +kernel
theorem d_Md_walk_154 : decode b_Md_walk 154 = .ok (.iload 10, 2) := by decide +kernel
theorem d_Md_walk_156 : decode b_Md_walk 156 = .ok (.iconst 1, 1) := by decide +kernel
theorem d_Md_walk_157 : decode b_Md_walk 157 = .ok (.isub, 1) := by decide +kernel
theorem d_Md_walk_158 : decode b_Md_walk 158 = .ok (.invokestatic 83, 3) := by decide +kernel
theorem d_Md_walk_161 : decode b_Md_walk 161 = .ok (.imul, 1) := by decide +kernel
theorem d_Md_walk_162 : decode b_Md_walk 162 = .ok (.iadd, 1) := by decide +kernel
theorem d_Md_walk_163 : decode b_Md_walk 163 = .ok (.istore 12, 2) := by decide +kernel
theorem d_Md_walk_165 : decode b_Md_walk 165 = .ok (.aload_n 0, 1) := by decide +kernel
theorem d_Md_walk_166 : decode b_Md_walk 166 = .ok (.iload 12, 2) := by decide +kernel
theorem d_Md_walk_168 : decode b_Md_walk 168 = .ok (.lload_n 1, 1) := by decide +kernel
theorem d_Md_walk_169 : decode b_Md_walk 169 = .ok (.iload 11, 2) := by decide +kernel
theorem d_Md_walk_171 : decode b_Md_walk 171 = .ok (.iload 10, 2) := by decide +kernel
theorem d_Md_walk_173 : decode b_Md_walk 173 = .ok (.invokestatic 83, 3) := by decide +kernel
theorem d_Md_walk_176 : decode b_Md_walk 176 = .ok (.invokevirtual 127, 3) := by decide +kernel
theorem d_Md_walk_179 : decode b_Md_walk 179 = .ok (.istore 13, 2) := by decide +kernel
theorem d_Md_walk_181 : decode b_Md_walk 181 = .ok (.lload 8, 2) := by decide +kernel
theorem d_Md_walk_183 : decode b_Md_walk 183 = .ok (.iload 13, 2) := by decide +kernel
theorem d_Md_walk_185 : decode b_Md_walk 185 = .ok (.i2l, 1) := by decide +kernel
theorem d_Md_walk_186 : decode b_Md_walk 186 = .ok (.bipush 8, 2) := by decide +kernel
theorem d_Md_walk_188 : decode b_Md_walk 188 = .ok (.iload 10, 2) := by decide +kernel
theorem d_Md_walk_190 : decode b_Md_walk 190 = .ok (.imul, 1) := by decide +kernel
theorem d_Md_walk_191 : decode b_Md_walk 191 = .ok (.iload 11, 2) := by decide +kernel
theorem d_Md_walk_193 : decode b_Md_walk 193 = .ok (.iadd, 1) := by decide +kernel
theorem d_Md_walk_194 : decode b_Md_walk 194 = .ok (.lshl, 1) := by decide +kernel
theorem d_Md_walk_195 : decode b_Md_walk 195 = .ok (.lor, 1) := by decide +kernel
theorem d_Md_walk_196 : decode b_Md_walk 196 = .ok (.lstore 8, 2) := by decide +kernel
theorem d_Md_walk_198 : decode b_Md_walk 198 = .ok (.iinc 11 1, 3) := by decide +kernel
theorem d_Md_walk_201 : decode b_Md_walk 201 = .ok (.goto (-185), 3) := by decide +kernel
theorem d_Md_walk_204 : decode b_Md_walk 204 = .ok (.iinc 10 1, 3) := by decide +kernel
theorem d_Md_walk_207 : decode b_Md_walk 207 = .ok (.goto (-201), 3) := by decide +kernel
theorem d_Md_walk_210 : decode b_Md_walk 210 = .ok (.lload 8, 2) := by decide +kernel
theorem d_Md_walk_212 : decode b_Md_walk 212 = .ok (.lreturn, 1) := by decide +kernel
theorem d_Md_planes_0 : decode b_Md_planes 0 = .ok (.iconst 0, 1) := by decide +kernel
theorem d_Md_planes_1 : decode b_Md_planes 1 = .ok (.istore_n 3, 1) := by decide +kernel
theorem d_Md_planes_2 : decode b_Md_planes 2 = .ok (.iload_n 3, 1) := by decide +kernel
theorem d_Md_planes_3 : decode b_Md_planes 3 = .ok (.bipush 64, 2) := by decide +kernel
theorem d_Md_planes_5 : decode b_Md_planes 5 = .ok (.if_icmp .ge 36, 3) := by decide +kernel
theorem d_Md_planes_8 : decode b_Md_planes 8 = .ok (.aload_n 0, 1) := by decide +kernel
theorem d_Md_planes_9 : decode b_Md_planes 9 = .ok (.getfield 68, 3) := by decide +kernel
theorem d_Md_planes_12 : decode b_Md_planes 12 = .ok (.iload_n 3, 1) := by decide +kernel
theorem d_Md_planes_13 : decode b_Md_planes 13 = .ok (.iconst 0, 1) := by decide +kernel
theorem d_Md_planes_14 : decode b_Md_planes 14 = .ok (.iastore, 1) := by decide +kernel
theorem d_Md_planes_15 : decode b_Md_planes 15 = .ok (.aload_n 0, 1) := by decide +kernel
theorem d_Md_planes_16 : decode b_Md_planes 16 = .ok (.getfield 71, 3) := by decide +kernel
theorem d_Md_planes_19 : decode b_Md_planes 19 = .ok (.iload_n 3, 1) := by decide +kernel
theorem d_Md_planes_20 : decode b_Md_planes 20 = .ok (.aload_n 0, 1) := by decide +kernel
theorem d_Md_planes_21 : decode b_Md_planes 21 = .ok (.getfield 59, 3) := by decide +kernel
theorem d_Md_planes_24 : decode b_Md_planes 24 = .ok (.iload_n 3, 1) := by decide +kernel
theorem d_Md_planes_25 : decode b_Md_planes 25 = .ok (.iaload, 1) := by decide +kernel
theorem d_Md_planes_26 : decode b_Md_planes 26 = .ok (.ifCond .ge 7, 3) := by decide +kernel
theorem d_Md_planes_29 : decode b_Md_planes 29 = .ok (.iconst 1, 1) := by decide +kernel
theorem d_Md_planes_30 : decode b_Md_planes 30 = .ok (.goto 4, 3) := by decide +kernel
theorem d_Md_planes_33 : decode b_Md_planes 33 = .ok (.iconst 0, 1) := by decide +kernel
theorem d_Md_planes_34 : decode b_Md_planes 34 = .ok (.bastore, 1) := by decide +kernel
theorem d_Md_planes_35 : decode b_Md_planes 35 = .ok (.iinc 3 1, 3) := by decide +kernel
theorem d_Md_planes_38 : decode b_Md_planes 38 = .ok (.goto (-36), 3) := by decide +kernel
theorem d_Md_planes_41 : decode b_Md_planes 41 = .ok (.bipush 9, 2) := by decide +kernel
theorem d_Md_planes_43 : decode b_Md_planes 43 = .ok (.istore_n 3, 1) := by decide +kernel
theorem d_Md_planes_44 : decode b_Md_planes 44 = .ok (.iload_n 3, 1) := by decide +kernel
theorem d_Md_planes_45 : decode b_Md_planes 45 = .ok (.bipush 9, 2) := by decide +kernel
theorem d_Md_planes_47 : decode b_Md_planes 47 = .ok (.iload_n 2, 1) := by decide +kernel
theorem d_Md_planes_48 : decode b_Md_planes 48 = .ok (.isub, 1) := by decide +kernel
theorem d_Md_planes_49 : decode b_Md_planes 49 = .ok (.if_icmp .le 236, 3) := by decide +kernel
theorem d_Md_planes_52 : decode b_Md_planes 52 = .ok (.iconst 0, 1) := by decide +kernel
theorem d_Md_planes_53 : decode b_Md_planes 53 = .ok (.istore 4, 2) := by decide +kernel
theorem d_Md_planes_55 : decode b_Md_planes 55 = .ok (.iload 4, 2) := by decide +kernel
theorem d_Md_planes_57 : decode b_Md_planes 57 = .ok (.iload_n 1, 1) := by decide +kernel
theorem d_Md_planes_58 : decode b_Md_planes 58 = .ok (.iload_n 1, 1) := by decide +kernel
theorem d_Md_planes_59 : decode b_Md_planes 59 = .ok (.imul, 1) := by decide +kernel
theorem d_Md_planes_60 : decode b_Md_planes 60 = .ok (.if_icmp .ge 219, 3) := by decide +kernel
theorem d_Md_planes_63 : decode b_Md_planes 63 = .ok (.iload 4, 2) := by decide +kernel
theorem d_Md_planes_65 : decode b_Md_planes 65 = .ok (.iload_n 1, 1) := by decide +kernel
theorem d_Md_planes_66 : decode b_Md_planes 66 = .ok (.irem, 1) := by decide +kernel
theorem d_Md_planes_67 : decode b_Md_planes 67 = .ok (.istore 5, 2) := by decide +kernel
theorem d_Md_planes_69 : decode b_Md_planes 69 = .ok (.iload 4, 2) := by decide +kernel
theorem d_Md_planes_71 : decode b_Md_planes 71 = .ok (.iload_n 1, 1) := by decide +kernel
theorem d_Md_planes_72 : decode b_Md_planes 72 = .ok (.idiv, 1) := by decide +kernel
theorem d_Md_planes_73 : decode b_Md_planes 73 = .ok (.istore 6, 2) := by decide +kernel
theorem d_Md_planes_75 : decode b_Md_planes 75 = .ok (.bipush 8, 2) := by decide +kernel
theorem d_Md_planes_77 : decode b_Md_planes 77 = .ok (.iload 6, 2) := by decide +kernel
theorem d_Md_planes_79 : decode b_Md_planes 79 = .ok (.imul, 1) := by decide +kernel
theorem d_Md_planes_80 : decode b_Md_planes 80 = .ok (.iload 5, 2) := by decide +kernel
theorem d_Md_planes_82 : decode b_Md_planes 82 = .ok (.iadd, 1) := by decide +kernel
theorem d_Md_planes_83 : decode b_Md_planes 83 = .ok (.istore 7, 2) := by decide +kernel
theorem d_Md_planes_85 : decode b_Md_planes 85 = .ok (.aload_n 0, 1) := by decide +kernel
theorem d_Md_planes_86 : decode b_Md_planes 86 = .ok (.getfield 59, 3) := by decide +kernel
theorem d_Md_planes_89 : decode b_Md_planes 89 = .ok (.iload 7, 2) := by decide +kernel
theorem d_Md_planes_91 : decode b_Md_planes 91 = .ok (.iaload, 1) := by decide +kernel
theorem d_Md_planes_92 : decode b_Md_planes 92 = .ok (.ifCond .ge 14, 3) := by decide +kernel
theorem d_Md_planes_95 : decode b_Md_planes 95 = .ok (.aload_n 0, 1) := by decide +kernel
theorem d_Md_planes_96 : decode b_Md_planes 96 = .ok (.getfield 59, 3) := by decide +kernel
theorem d_Md_planes_99 : decode b_Md_planes 99 = .ok (.iload 7, 2) := by decide +kernel
theorem d_Md_planes_101 : decode b_Md_planes 101 = .ok (.iaload, 1) := by decide +kernel
theorem d_Md_planes_102 : decode b_Md_planes 102 = .ok (.ineg, 1) := by decide +kernel
theorem d_Md_planes_103 : decode b_Md_planes 103 = .ok (.goto 10, 3) := by decide +kernel
theorem d_Md_planes_106 : decode b_Md_planes 106 = .ok (.aload_n 0, 1) := by decide +kernel
theorem d_Md_planes_107 : decode b_Md_planes 107 = .ok (.getfield 59, 3) := by decide +kernel
theorem d_Md_planes_110 : decode b_Md_planes 110 = .ok (.iload 7, 2) := by decide +kernel
theorem d_Md_planes_112 : decode b_Md_planes 112 = .ok (.iaload, 1) := by decide +kernel
theorem d_Md_planes_113 : decode b_Md_planes 113 = .ok (.istore 8, 2) := by decide +kernel
theorem d_Md_planes_115 : decode b_Md_planes 115 = .ok (.iload 5, 2) := by decide +kernel
theorem d_Md_planes_117 : decode b_Md_planes 117 = .ok (.ifCond .le 19, 3) := by decide +kernel
theorem d_Md_planes_120 : decode b_Md_planes 120 = .ok (.aload_n 0, 1) := by decide +kernel
theorem d_Md_planes_121 : decode b_Md_planes 121 = .ok (.getfield 68, 3) := by decide +kernel
theorem d_Md_planes_124 : decode b_Md_planes 124 = .ok (.iload 7, 2) := by decide +kernel
theorem d_Md_planes_126 : decode b_Md_planes 126 = .ok (.iconst 1, 1) := by decide +kernel
theorem d_Md_planes_127 : decode b_Md_planes 127 = .ok (.isub, 1) := by decide +kernel
theorem d_Md_planes_128 : decode b_Md_planes 128 = .ok (.iaload, 1) := by decide +kernel
theorem d_Md_planes_129 : decode b_Md_planes 129 = .ok (.ifCond .le 7, 3) := by decide +kernel
theorem d_Md_planes_132 : decode b_Md_planes 132 = .ok (.iconst 1, 1) := by decide +kernel
theorem d_Md_planes_133 : decode b_Md_planes 133 = .ok (.goto 4, 3) := by decide +kernel
theorem d_Md_planes_136 : decode b_Md_planes 136 = .ok (.iconst 0, 1) := by decide +kernel
theorem d_Md_planes_137 : decode b_Md_planes 137 = .ok (.iload 6, 2) := by decide +kernel
theorem d_Md_planes_139 : decode b_Md_planes 139 = .ok (.ifCond .le 20, 3) := by decide +kernel
theorem d_Md_planes_142 : decode b_Md_planes 142 = .ok (.aload_n 0, 1) := by decide +kernel
theorem d_Md_planes_143 : decode b_Md_planes 143 = .ok (.getfield 68, 3) := by decide +kernel
theorem d_Md_planes_146 : decode b_Md_planes 146 = .ok (.iload 7, 2) := by decide +kernel
theorem d_Md_planes_148 : decode b_Md_planes 148 = .ok (.bipush 8, 2) := by decide +kernel
theorem d_Md_planes_150 : decode b_Md_planes 150 = .ok (.isub, 1) := by decide +kernel
theorem d_Md_planes_151 : decode b_Md_planes 151 = .ok (.iaload, 1) := by decide +kernel
theorem d_Md_planes_152 : decode b_Md_planes 152 = .ok (.ifCond .le 7, 3) := by decide +kernel
theorem d_Md_planes_155 : decode b_Md_planes 155 = .ok (.iconst 1, 1) := by decide +kernel
theorem d_Md_planes_156 : decode b_Md_planes 156 = .ok (.goto 4, 3) := by decide +kernel
theorem d_Md_planes_159 : decode b_Md_planes 159 = .ok (.iconst 0, 1) := by decide +kernel
theorem d_Md_planes_160 : decode b_Md_planes 160 = .ok (.iadd, 1) := by decide +kernel
theorem d_Md_planes_161 : decode b_Md_planes 161 = .ok (.istore 9, 2) := by decide +kernel
theorem d_Md_planes_163 : decode b_Md_planes 163 = .ok (.aload_n 0, 1) := by decide +kernel
theorem d_Md_planes_164 : decode b_Md_planes 164 = .ok (.getfield 68, 3) := by decide +kernel
theorem d_Md_planes_167 : decode b_Md_planes 167 = .ok (.iload 7, 2) := by decide +kernel
theorem d_Md_planes_169 : decode b_Md_planes 169 = .ok (.iaload, 1) := by decide +kernel
theorem d_Md_planes_170 : decode b_Md_planes 170 = .ok (.ifCond .ne 7, 3) := by decide +kernel
theorem d_Md_planes_173 : decode b_Md_planes 173 = .ok (.iconst 1, 1) := by decide +kernel
theorem d_Md_planes_174 : decode b_Md_planes 174 = .ok (.goto 4, 3) := by decide +kernel
theorem d_Md_planes_177 : decode b_Md_planes 177 = .ok (.iconst 0, 1) := by decide +kernel
theorem d_Md_planes_178 : decode b_Md_planes 178 = .ok (.istore 10, 2) := by decide +kernel
theorem d_Md_planes_180 : decode b_Md_planes 180 = .ok (.aload_n 0, 1) := by decide +kernel
theorem d_Md_planes_181 : decode b_Md_planes 181 = .ok (.iload 10, 2) := by decide +kernel
theorem d_Md_planes_183 : decode b_Md_planes 183 = .ok (.ifCond .eq 8, 3) := by decide +kernel
theorem d_Md_planes_186 : decode b_Md_planes 186 = .ok (.iload 9, 2) := by decide +kernel
theorem d_Md_planes_188 : decode b_Md_planes 188 = .ok (.goto 4, 3) := by decide +kernel
theorem d_Md_planes_191 : decode b_Md_planes 191 = .ok (.iconst 4, 1) := by decide +kernel
theorem d_Md_planes_192 : decode b_Md_planes 192 = .ok (.iload 8, 2) := by decide +kernel
theorem d_Md_planes_194 : decode b_Md_planes 194 = .ok (.iload_n 3, 1) := by decide +kernel
theorem d_Md_planes_195 : decode b_Md_planes 195 = .ok (.ishr, 1) := by decide +kernel
theorem d_Md_planes_196 : decode b_Md_planes 196 = .ok (.iconst 1, 1) := by decide +kernel
theorem d_Md_planes_197 : decode b_Md_planes 197 = .ok (.iand, 1) := by decide +kernel
theorem d_Md_planes_198 : decode b_Md_planes 198 = .ok (.invokevirtual 127, 3) := by decide +kernel
theorem d_Md_planes_201 : decode b_Md_planes 201 = .ok (.istore 11, 2) := by decide +kernel
theorem d_Md_planes_203 : decode b_Md_planes 203 = .ok (.aload_n 0, 1) := by decide +kernel
theorem d_Md_planes_204 : decode b_Md_planes 204 = .ok (.getfield 68, 3) := by decide +kernel
theorem d_Md_planes_207 : decode b_Md_planes 207 = .ok (.iload 7, 2) := by decide +kernel
theorem d_Md_planes_209 : decode b_Md_planes 209 = .ok (.iconst 2, 1) := by decide +kernel
theorem d_Md_planes_210 : decode b_Md_planes 210 = .ok (.aload_n 0, 1) := by decide +kernel
theorem d_Md_planes_211 : decode b_Md_planes 211 = .ok (.getfield 68, 3) := by decide +kernel
theorem d_Md_planes_214 : decode b_Md_planes 214 = .ok (.iload 7, 2) := by decide +kernel
theorem d_Md_planes_216 : decode b_Md_planes 216 = .ok (.iaload, 1) := by decide +kernel
theorem d_Md_planes_217 : decode b_Md_planes 217 = .ok (.imul, 1) := by decide +kernel
theorem d_Md_planes_218 : decode b_Md_planes 218 = .ok (.iload 11, 2) := by decide +kernel
theorem d_Md_planes_220 : decode b_Md_planes 220 = .ok (.iadd, 1) := by decide +kernel
theorem d_Md_planes_221 : decode b_Md_planes 221 = .ok (.iastore, 1) := by decide +kernel
theorem d_Md_planes_222 : decode b_Md_planes 222 = .ok (.iload 10, 2) := by decide +kernel
theorem d_Md_planes_224 : decode b_Md_planes 224 = .ok (.ifCond .eq 49, 3) := by decide +kernel
theorem d_Md_planes_227 : decode b_Md_planes 227 = .ok (.iload 11, 2) := by decide +kernel
theorem d_Md_planes_229 : decode b_Md_planes 229 = .ok (.iconst 1, 1) := by decide +kernel
theorem d_Md_planes_230 : decode b_Md_planes 230 = .ok (.if_icmp .ne 43, 3) := by decide +kernel
theorem d_Md_planes_233 : decode b_Md_planes 233 = .ok (.aload_n 0, 1) := by decide +kernel
theorem d_Md_planes_234 : decode b_Md_planes 234 = .ok (.iconst 3, 1) := by decide +kernel
theorem d_Md_planes_235 : decode b_Md_planes 235 = .ok (.aload_n 0, 1) := by decide +kernel
theorem d_Md_planes_236 : decode b_Md_planes 236 = .ok (.getfield 71, 3) := by decide +kernel
theorem d_Md_planes_239 : decode b_Md_planes 239 = .ok (.iload 7, 2) := by decide +kernel
theorem d_Md_planes_241 : decode b_Md_planes 241 = .ok (.baload, 1) := by decide +kernel
theorem d_Md_planes_242 : decode b_Md_planes 242 = .ok (.ifCond .eq 7, 3) := by decide +kernel
theorem d_Md_planes_245 : decode b_Md_planes 245 = .ok (.iconst 1, 1) := by decide +kernel
theorem d_Md_planes_246 : decode b_Md_planes 246 = .ok (.goto 4, 3) := by decide +kernel
theorem d_Md_planes_249 : decode b_Md_planes 249 = .ok (.iconst 0, 1) := by decide +kernel
theorem d_Md_planes_250 : decode b_Md_planes 250 = .ok (.invokevirtual 127, 3) := by decide +kernel
theorem d_Md_planes_253 : decode b_Md_planes 253 = .ok (.istore 12, 2) := by decide +kernel
theorem d_Md_planes_255 : decode b_Md_planes 255 = .ok (.aload_n 0, 1) := by decide +kernel
theorem d_Md_planes_256 : decode b_Md_planes 256 = .ok (.getfield 71, 3) := by decide +kernel
theorem d_Md_planes_259 : decode b_Md_planes 259 = .ok (.iload 7, 2) := by decide +kernel
theorem d_Md_planes_261 : decode b_Md_planes 261 = .ok (.iload 12, 2) := by decide +kernel
theorem d_Md_planes_263 : decode b_Md_planes 263 = .ok (.iconst 1, 1) := by decide +kernel
theorem d_Md_planes_264 : decode b_Md_planes 264 = .ok (.if_icmp .ne 7, 3) := by decide +kernel
theorem d_Md_planes_267 : decode b_Md_planes 267 = .ok (.iconst 1, 1) := by decide +kernel
theorem d_Md_planes_268 : decode b_Md_planes 268 = .ok (.goto 4, 3) := by decide +kernel
theorem d_Md_planes_271 : decode b_Md_planes 271 = .ok (.iconst 0, 1) := by decide +kernel
theorem d_Md_planes_272 : decode b_Md_planes 272 = .ok (.bastore, 1) := by decide +kernel
theorem d_Md_planes_273 : decode b_Md_planes 273 = .ok (.iinc 4 1, 3) := by decide +kernel
theorem d_Md_planes_276 : decode b_Md_planes 276 = .ok (.goto (-221), 3) := by decide +kernel
theorem d_Md_planes_279 : decode b_Md_planes 279 = .ok (.iinc 3 (-1), 3) := by decide +kernel
theorem d_Md_planes_282 : decode b_Md_planes 282 = .ok (.goto (-238), 3) := by decide +kernel
theorem d_Md_planes_285 : decode b_Md_planes 285 = .ok (.return_, 1) := by decide +kernel
theorem d_Md_half_0 : decode b_Md_half 0 = .ok (.iload_n 0, 1) := by decide +kernel
theorem d_Md_half_1 : decode b_Md_half 1 = .ok (.iconst 1, 1) := by decide +kernel
theorem d_Md_half_2 : decode b_Md_half 2 = .ok (.ishr, 1) := by decide +kernel
theorem d_Md_half_3 : decode b_Md_half 3 = .ok (.ireturn, 1) := by decide +kernel
theorem d_Md_lift_0 : decode b_Md_lift 0 = .ok (.iload_n 1, 1) := by decide +kernel
theorem d_Md_lift_1 : decode b_Md_lift 1 = .ok (.iconst 2, 1) := by decide +kernel
theorem d_Md_lift_2 : decode b_Md_lift 2 = .ok (.idiv, 1) := by decide +kernel
theorem d_Md_lift_3 : decode b_Md_lift 3 = .ok (.istore_n 2, 1) := by decide +kernel
theorem d_Md_lift_4 : decode b_Md_lift 4 = .ok (.iconst 0, 1) := by decide +kernel
theorem d_Md_lift_5 : decode b_Md_lift 5 = .ok (.istore_n 3, 1) := by decide +kernel
theorem d_Md_lift_6 : decode b_Md_lift 6 = .ok (.iload_n 3, 1) := by decide +kernel
theorem d_Md_lift_7 : decode b_Md_lift 7 = .ok (.iload_n 2, 1) := by decide +kernel
theorem d_Md_lift_8 : decode b_Md_lift 8 = .ok (.if_icmp .ge 72, 3) := by decide +kernel
theorem d_Md_lift_11 : decode b_Md_lift 11 = .ok (.iload_n 3, 1) := by decide +kernel
theorem d_Md_lift_12 : decode b_Md_lift 12 = .ok (.iload_n 2, 1) := by decide +kernel
theorem d_Md_lift_13 : decode b_Md_lift 13 = .ok (.iconst 1, 1) := by decide +kernel
theorem d_Md_lift_14 : decode b_Md_lift 14 = .ok (.isub, 1) := by decide +kernel
theorem d_Md_lift_15 : decode b_Md_lift 15 = .ok (.if_icmp .ne 14, 3) := by decide +kernel
theorem d_Md_lift_18 : decode b_Md_lift 18 = .ok (.aload_n 0, 1) := by decide +kernel
theorem d_Md_lift_19 : decode b_Md_lift 19 = .ok (.getfield 62, 3) := by decide +kernel
theorem d_Md_lift_22 : decode b_Md_lift 22 = .ok (.iload_n 1, 1) := by decide +kernel
theorem d_Md_lift_23 : decode b_Md_lift 23 = .ok (.iconst 2, 1) := by decide +kernel
theorem d_Md_lift_24 : decode b_Md_lift 24 = .ok (.isub, 1) := by decide +kernel
theorem d_Md_lift_25 : decode b_Md_lift 25 = .ok (.iaload, 1) := by decide +kernel
theorem d_Md_lift_26 : decode b_Md_lift 26 = .ok (.goto 13, 3) := by decide +kernel
theorem d_Md_lift_29 : decode b_Md_lift 29 = .ok (.aload_n 0, 1) := by decide +kernel
theorem d_Md_lift_30 : decode b_Md_lift 30 = .ok (.getfield 62, 3) := by decide +kernel
theorem d_Md_lift_33 : decode b_Md_lift 33 = .ok (.iconst 2, 1) := by decide +kernel
theorem d_Md_lift_34 : decode b_Md_lift 34 = .ok (.iload_n 3, 1) := by decide +kernel
theorem d_Md_lift_35 : decode b_Md_lift 35 = .ok (.imul, 1) := by decide +kernel
theorem d_Md_lift_36 : decode b_Md_lift 36 = .ok (.iconst 2, 1) := by decide +kernel
theorem d_Md_lift_37 : decode b_Md_lift 37 = .ok (.iadd, 1) := by decide +kernel
theorem d_Md_lift_38 : decode b_Md_lift 38 = .ok (.iaload, 1) := by decide +kernel
theorem d_Md_lift_39 : decode b_Md_lift 39 = .ok (.istore 4, 2) := by decide +kernel
theorem d_Md_lift_41 : decode b_Md_lift 41 = .ok (.aload_n 0, 1) := by decide +kernel
theorem d_Md_lift_42 : decode b_Md_lift 42 = .ok (.getfield 65, 3) := by decide +kernel
theorem d_Md_lift_45 : decode b_Md_lift 45 = .ok (.iload_n 2, 1) := by decide +kernel
theorem d_Md_lift_46 : decode b_Md_lift 46 = .ok (.iload_n 3, 1) := by decide +kernel
theorem d_Md_lift_47 : decode b_Md_lift 47 = .ok (.iadd, 1) := by decide +kernel
theorem d_Md_lift_48 : decode b_Md_lift 48 = .ok (.aload_n 0, 1) := by decide +kernel
theorem d_Md_lift_49 : decode b_Md_lift 49 = .ok (.getfield 62, 3) := by decide +kernel
theorem d_Md_lift_52 : decode b_Md_lift 52 = .ok (.iconst 2, 1) := by decide +kernel
theorem d_Md_lift_53 : decode b_Md_lift 53 = .ok (.iload_n 3, 1) := by decide +kernel
theorem d_Md_lift_54 : decode b_Md_lift 54 = .ok (.imul, 1) := by decide +kernel
theorem d_Md_lift_55 : decode b_Md_lift 55 = .ok (.iconst 1, 1) := by decide +kernel
theorem d_Md_lift_56 : decode b_Md_lift 56 = .ok (.iadd, 1) := by decide +kernel
theorem d_Md_lift_57 : decode b_Md_lift 57 = .ok (.iaload, 1) := by decide +kernel
theorem d_Md_lift_58 : decode b_Md_lift 58 = .ok (.aload_n 0, 1) := by decide +kernel
theorem d_Md_lift_59 : decode b_Md_lift 59 = .ok (.getfield 62, 3) := by decide +kernel
theorem d_Md_lift_62 : decode b_Md_lift 62 = .ok (.iconst 2, 1) := by decide +kernel
theorem d_Md_lift_63 : decode b_Md_lift 63 = .ok (.iload_n 3, 1) := by decide +kernel
theorem d_Md_lift_64 : decode b_Md_lift 64 = .ok (.imul, 1) := by decide +kernel
theorem d_Md_lift_65 : decode b_Md_lift 65 = .ok (.iaload, 1) := by decide +kernel
theorem d_Md_lift_66 : decode b_Md_lift 66 = .ok (.iload 4, 2) := by decide +kernel
theorem d_Md_lift_68 : decode b_Md_lift 68 = .ok (.iadd, 1) := by decide +kernel
theorem d_Md_lift_69 : decode b_Md_lift 69 = .ok (.invokestatic 131, 3) := by decide +kernel
theorem d_Md_lift_72 : decode b_Md_lift 72 = .ok (.isub, 1) := by decide +kernel
theorem d_Md_lift_73 : decode b_Md_lift 73 = .ok (.iastore, 1) := by decide +kernel
theorem d_Md_lift_74 : decode b_Md_lift 74 = .ok (.iinc 3 1, 3) := by decide +kernel
theorem d_Md_lift_77 : decode b_Md_lift 77 = .ok (.goto (-71), 3) := by decide +kernel
theorem d_Md_lift_80 : decode b_Md_lift 80 = .ok (.iconst 0, 1) := by decide +kernel
theorem d_Md_lift_81 : decode b_Md_lift 81 = .ok (.istore_n 3, 1) := by decide +kernel
theorem d_Md_lift_82 : decode b_Md_lift 82 = .ok (.iload_n 3, 1) := by decide +kernel
theorem d_Md_lift_83 : decode b_Md_lift 83 = .ok (.iload_n 2, 1) := by decide +kernel
theorem d_Md_lift_84 : decode b_Md_lift 84 = .ok (.if_icmp .ge 55, 3) := by decide +kernel
theorem d_Md_lift_87 : decode b_Md_lift 87 = .ok (.aload_n 0, 1) := by decide +kernel
theorem d_Md_lift_88 : decode b_Md_lift 88 = .ok (.getfield 65, 3) := by decide +kernel
theorem d_Md_lift_91 : decode b_Md_lift 91 = .ok (.iload_n 3, 1) := by decide +kernel
theorem d_Md_lift_92 : decode b_Md_lift 92 = .ok (.aload_n 0, 1) := by decide +kernel
theorem d_Md_lift_93 : decode b_Md_lift 93 = .ok (.getfield 62, 3) := by decide +kernel
theorem d_Md_lift_96 : decode b_Md_lift 96 = .ok (.iconst 2, 1) := by decide +kernel
theorem d_Md_lift_97 : decode b_Md_lift 97 = .ok (.iload_n 3, 1) := by decide +kernel
theorem d_Md_lift_98 : decode b_Md_lift 98 = .ok (.imul, 1) := by decide +kernel
theorem d_Md_lift_99 : decode b_Md_lift 99 = .ok (.iaload, 1) := by decide +kernel
theorem d_Md_lift_100 : decode b_Md_lift 100 = .ok (.aload_n 0, 1) := by decide +kernel
theorem d_Md_lift_101 : decode b_Md_lift 101 = .ok (.getfield 65, 3) := by decide +kernel
theorem d_Md_lift_104 : decode b_Md_lift 104 = .ok (.iload_n 2, 1) := by decide +kernel
theorem d_Md_lift_105 : decode b_Md_lift 105 = .ok (.iload_n 3, 1) := by decide +kernel
theorem d_Md_lift_106 : decode b_Md_lift 106 = .ok (.ifCond .ne 7, 3) := by decide +kernel
theorem d_Md_lift_109 : decode b_Md_lift 109 = .ok (.iconst 0, 1) := by decide +kernel
theorem d_Md_lift_110 : decode b_Md_lift 110 = .ok (.goto 6, 3) := by decide +kernel
theorem d_Md_lift_113 : decode b_Md_lift 113 = .ok (.iload_n 3, 1) := by decide +kernel
theorem d_Md_lift_114 : decode b_Md_lift 114 = .ok (.iconst 1, 1) := by decide +kernel
theorem d_Md_lift_115 : decode b_Md_lift 115 = .ok (.isub, 1) := by decide +kernel
theorem d_Md_lift_116 : decode b_Md_lift 116 = .ok (.iadd, 1) := by decide +kernel
theorem d_Md_lift_117 : decode b_Md_lift 117 = .ok (.iaload, 1) := by decide +kernel
theorem d_Md_lift_118 : decode b_Md_lift 118 = .ok (.aload_n 0, 1) := by decide +kernel
theorem d_Md_lift_119 : decode b_Md_lift 119 = .ok (.getfield 65, 3) := by decide +kernel
theorem d_Md_lift_122 : decode b_Md_lift 122 = .ok (.iload_n 2, 1) := by decide +kernel
theorem d_Md_lift_123 : decode b_Md_lift 123 = .ok (.iload_n 3, 1) := by decide +kernel
theorem d_Md_lift_124 : decode b_Md_lift 124 = .ok (.iadd, 1) := by decide +kernel
theorem d_Md_lift_125 : decode b_Md_lift 125 = .ok (.iaload, 1) := by decide +kernel
theorem d_Md_lift_126 : decode b_Md_lift 126 = .ok (.iadd, 1) := by decide +kernel
theorem d_Md_lift_127 : decode b_Md_lift 127 = .ok (.iconst 2, 1) := by decide +kernel
theorem d_Md_lift_128 : decode b_Md_lift 128 = .ok (.iadd, 1) := by decide +kernel
theorem d_Md_lift_129 : decode b_Md_lift 129 = .ok (.iconst 2, 1) := by decide +kernel
theorem d_Md_lift_130 : decode b_Md_lift 130 = .ok (.ishr, 1) := by decide +kernel
theorem d_Md_lift_131 : decode b_Md_lift 131 = .ok (.iadd, 1) := by decide +kernel
theorem d_Md_lift_132 : decode b_Md_lift 132 = .ok (.iastore, 1) := by decide +kernel
theorem d_Md_lift_133 : decode b_Md_lift 133 = .ok (.iinc 3 1, 3) := by decide +kernel
theorem d_Md_lift_136 : decode b_Md_lift 136 = .ok (.goto (-54), 3) := by decide +kernel
theorem d_Md_lift_139 : decode b_Md_lift 139 = .ok (.return_, 1) := by decide +kernel
theorem d_Md_drop_0 : decode b_Md_drop 0 = .ok (.iload_n 1, 1) := by decide +kernel
theorem d_Md_drop_1 : decode b_Md_drop 1 = .ok (.iconst 2, 1) := by decide +kernel
theorem d_Md_drop_2 : decode b_Md_drop 2 = .ok (.idiv, 1) := by decide +kernel
theorem d_Md_drop_3 : decode b_Md_drop 3 = .ok (.istore_n 2, 1) := by decide +kernel
theorem d_Md_drop_4 : decode b_Md_drop 4 = .ok (.iconst 0, 1) := by decide +kernel
theorem d_Md_drop_5 : decode b_Md_drop 5 = .ok (.istore_n 3, 1) := by decide +kernel
theorem d_Md_drop_6 : decode b_Md_drop 6 = .ok (.iload_n 3, 1) := by decide +kernel
theorem d_Md_drop_7 : decode b_Md_drop 7 = .ok (.iload_n 2, 1) := by decide +kernel
theorem d_Md_drop_8 : decode b_Md_drop 8 = .ok (.if_icmp .ge 55, 3) := by decide +kernel
theorem d_Md_drop_11 : decode b_Md_drop 11 = .ok (.aload_n 0, 1) := by decide +kernel
theorem d_Md_drop_12 : decode b_Md_drop 12 = .ok (.getfield 65, 3) := by decide +kernel
theorem d_Md_drop_15 : decode b_Md_drop 15 = .ok (.iconst 2, 1) := by decide +kernel
theorem d_Md_drop_16 : decode b_Md_drop 16 = .ok (.iload_n 3, 1) := by decide +kernel
theorem d_Md_drop_17 : decode b_Md_drop 17 = .ok (.imul, 1) := by decide +kernel
theorem d_Md_drop_18 : decode b_Md_drop 18 = .ok (.aload_n 0, 1) := by decide +kernel
theorem d_Md_drop_19 : decode b_Md_drop 19 = .ok (.getfield 62, 3) := by decide +kernel
theorem d_Md_drop_22 : decode b_Md_drop 22 = .ok (.iload_n 3, 1) := by decide +kernel
theorem d_Md_drop_23 : decode b_Md_drop 23 = .ok (.iaload, 1) := by decide +kernel
theorem d_Md_drop_24 : decode b_Md_drop 24 = .ok (.aload_n 0, 1) := by decide +kernel
theorem d_Md_drop_25 : decode b_Md_drop 25 = .ok (.getfield 62, 3) := by decide +kernel
theorem d_Md_drop_28 : decode b_Md_drop 28 = .ok (.iload_n 2, 1) := by decide +kernel
theorem d_Md_drop_29 : decode b_Md_drop 29 = .ok (.iload_n 3, 1) := by decide +kernel
theorem d_Md_drop_30 : decode b_Md_drop 30 = .ok (.ifCond .ne 7, 3) := by decide +kernel
theorem d_Md_drop_33 : decode b_Md_drop 33 = .ok (.iconst 0, 1) := by decide +kernel
theorem d_Md_drop_34 : decode b_Md_drop 34 = .ok (.goto 6, 3) := by decide +kernel
theorem d_Md_drop_37 : decode b_Md_drop 37 = .ok (.iload_n 3, 1) := by decide +kernel
theorem d_Md_drop_38 : decode b_Md_drop 38 = .ok (.iconst 1, 1) := by decide +kernel
theorem d_Md_drop_39 : decode b_Md_drop 39 = .ok (.isub, 1) := by decide +kernel
theorem d_Md_drop_40 : decode b_Md_drop 40 = .ok (.iadd, 1) := by decide +kernel
theorem d_Md_drop_41 : decode b_Md_drop 41 = .ok (.iaload, 1) := by decide +kernel
theorem d_Md_drop_42 : decode b_Md_drop 42 = .ok (.aload_n 0, 1) := by decide +kernel
theorem d_Md_drop_43 : decode b_Md_drop 43 = .ok (.getfield 62, 3) := by decide +kernel
theorem d_Md_drop_46 : decode b_Md_drop 46 = .ok (.iload_n 2, 1) := by decide +kernel
theorem d_Md_drop_47 : decode b_Md_drop 47 = .ok (.iload_n 3, 1) := by decide +kernel
theorem d_Md_drop_48 : decode b_Md_drop 48 = .ok (.iadd, 1) := by decide +kernel
theorem d_Md_drop_49 : decode b_Md_drop 49 = .ok (.iaload, 1) := by decide +kernel
theorem d_Md_drop_50 : decode b_Md_drop 50 = .ok (.iadd, 1) := by decide +kernel
theorem d_Md_drop_51 : decode b_Md_drop 51 = .ok (.iconst 2, 1) := by decide +kernel
theorem d_Md_drop_52 : decode b_Md_drop 52 = .ok (.iadd, 1) := by decide +kernel
theorem d_Md_drop_53 : decode b_Md_drop 53 = .ok (.iconst 2, 1) := by decide +kernel
theorem d_Md_drop_54 : decode b_Md_drop 54 = .ok (.ishr, 1) := by decide +kernel
theorem d_Md_drop_55 : decode b_Md_drop 55 = .ok (.isub, 1) := by decide +kernel
theorem d_Md_drop_56 : decode b_Md_drop 56 = .ok (.iastore, 1) := by decide +kernel
theorem d_Md_drop_57 : decode b_Md_drop 57 = .ok (.iinc 3 1, 3) := by decide +kernel
theorem d_Md_drop_60 : decode b_Md_drop 60 = .ok (.goto (-54), 3) := by decide +kernel
theorem d_Md_drop_63 : decode b_Md_drop 63 = .ok (.iconst 0, 1) := by decide +kernel
theorem d_Md_drop_64 : decode b_Md_drop 64 = .ok (.istore_n 3, 1) := by decide +kernel
theorem d_Md_drop_65 : decode b_Md_drop 65 = .ok (.iload_n 3, 1) := by decide +kernel
theorem d_Md_drop_66 : decode b_Md_drop 66 = .ok (.iload_n 2, 1) := by decide +kernel
theorem d_Md_drop_67 : decode b_Md_drop 67 = .ok (.if_icmp .ge 72, 3) := by decide +kernel
theorem d_Md_drop_70 : decode b_Md_drop 70 = .ok (.iload_n 3, 1) := by decide +kernel
theorem d_Md_drop_71 : decode b_Md_drop 71 = .ok (.iload_n 2, 1) := by decide +kernel
theorem d_Md_drop_72 : decode b_Md_drop 72 = .ok (.iconst 1, 1) := by decide +kernel
theorem d_Md_drop_73 : decode b_Md_drop 73 = .ok (.isub, 1) := by decide +kernel
theorem d_Md_drop_74 : decode b_Md_drop 74 = .ok (.if_icmp .ne 14, 3) := by decide +kernel
theorem d_Md_drop_77 : decode b_Md_drop 77 = .ok (.aload_n 0, 1) := by decide +kernel
theorem d_Md_drop_78 : decode b_Md_drop 78 = .ok (.getfield 65, 3) := by decide +kernel
theorem d_Md_drop_81 : decode b_Md_drop 81 = .ok (.iload_n 1, 1) := by decide +kernel
theorem d_Md_drop_82 : decode b_Md_drop 82 = .ok (.iconst 2, 1) := by decide +kernel
theorem d_Md_drop_83 : decode b_Md_drop 83 = .ok (.isub, 1) := by decide +kernel
theorem d_Md_drop_84 : decode b_Md_drop 84 = .ok (.iaload, 1) := by decide +kernel
theorem d_Md_drop_85 : decode b_Md_drop 85 = .ok (.goto 13, 3) := by decide +kernel
theorem d_Md_drop_88 : decode b_Md_drop 88 = .ok (.aload_n 0, 1) := by decide +kernel
theorem d_Md_drop_89 : decode b_Md_drop 89 = .ok (.getfield 65, 3) := by decide +kernel
theorem d_Md_drop_92 : decode b_Md_drop 92 = .ok (.iconst 2, 1) := by decide +kernel
theorem d_Md_drop_93 : decode b_Md_drop 93 = .ok (.iload_n 3, 1) := by decide +kernel
theorem d_Md_drop_94 : decode b_Md_drop 94 = .ok (.imul, 1) := by decide +kernel
theorem d_Md_drop_95 : decode b_Md_drop 95 = .ok (.iconst 2, 1) := by decide +kernel
theorem d_Md_drop_96 : decode b_Md_drop 96 = .ok (.iadd, 1) := by decide +kernel
theorem d_Md_drop_97 : decode b_Md_drop 97 = .ok (.iaload, 1) := by decide +kernel
theorem d_Md_drop_98 : decode b_Md_drop 98 = .ok (.istore 4, 2) := by decide +kernel
theorem d_Md_drop_100 : decode b_Md_drop 100 = .ok (.aload_n 0, 1) := by decide +kernel
theorem d_Md_drop_101 : decode b_Md_drop 101 = .ok (.getfield 65, 3) := by decide +kernel
theorem d_Md_drop_104 : decode b_Md_drop 104 = .ok (.iconst 2, 1) := by decide +kernel
theorem d_Md_drop_105 : decode b_Md_drop 105 = .ok (.iload_n 3, 1) := by decide +kernel
theorem d_Md_drop_106 : decode b_Md_drop 106 = .ok (.imul, 1) := by decide +kernel
theorem d_Md_drop_107 : decode b_Md_drop 107 = .ok (.iconst 1, 1) := by decide +kernel
theorem d_Md_drop_108 : decode b_Md_drop 108 = .ok (.iadd, 1) := by decide +kernel
theorem d_Md_drop_109 : decode b_Md_drop 109 = .ok (.aload_n 0, 1) := by decide +kernel
theorem d_Md_drop_110 : decode b_Md_drop 110 = .ok (.getfield 62, 3) := by decide +kernel
theorem d_Md_drop_113 : decode b_Md_drop 113 = .ok (.iload_n 2, 1) := by decide +kernel
theorem d_Md_drop_114 : decode b_Md_drop 114 = .ok (.iload_n 3, 1) := by decide +kernel
theorem d_Md_drop_115 : decode b_Md_drop 115 = .ok (.iadd, 1) := by decide +kernel
theorem d_Md_drop_116 : decode b_Md_drop 116 = .ok (.iaload, 1) := by decide +kernel
theorem d_Md_drop_117 : decode b_Md_drop 117 = .ok (.aload_n 0, 1) := by decide +kernel
theorem d_Md_drop_118 : decode b_Md_drop 118 = .ok (.getfield 65, 3) := by decide +kernel
theorem d_Md_drop_121 : decode b_Md_drop 121 = .ok (.iconst 2, 1) := by decide +kernel
theorem d_Md_drop_122 : decode b_Md_drop 122 = .ok (.iload_n 3, 1) := by decide +kernel
theorem d_Md_drop_123 : decode b_Md_drop 123 = .ok (.imul, 1) := by decide +kernel
theorem d_Md_drop_124 : decode b_Md_drop 124 = .ok (.iaload, 1) := by decide +kernel
theorem d_Md_drop_125 : decode b_Md_drop 125 = .ok (.iload 4, 2) := by decide +kernel
theorem d_Md_drop_127 : decode b_Md_drop 127 = .ok (.iadd, 1) := by decide +kernel
theorem d_Md_drop_128 : decode b_Md_drop 128 = .ok (.invokestatic 131, 3) := by decide +kernel
theorem d_Md_drop_131 : decode b_Md_drop 131 = .ok (.iadd, 1) := by decide +kernel
theorem d_Md_drop_132 : decode b_Md_drop 132 = .ok (.iastore, 1) := by decide +kernel
theorem d_Md_drop_133 : decode b_Md_drop 133 = .ok (.iinc 3 1, 3) := by decide +kernel
theorem d_Md_drop_136 : decode b_Md_drop 136 = .ok (.goto (-71), 3) := by decide +kernel
theorem d_Md_drop_139 : decode b_Md_drop 139 = .ok (.return_, 1) := by decide +kernel
theorem d_Md_all_0 : decode b_Md_all 0 = .ok (.iconst 0, 1) := by decide +kernel
theorem d_Md_all_1 : decode b_Md_all 1 = .ok (.istore 4, 2) := by decide +kernel
theorem d_Md_all_3 : decode b_Md_all 3 = .ok (.iload 4, 2) := by decide +kernel
theorem d_Md_all_5 : decode b_Md_all 5 = .ok (.iload_n 1, 1) := by decide +kernel
theorem d_Md_all_6 : decode b_Md_all 6 = .ok (.if_icmp .ge 126, 3) := by decide +kernel
theorem d_Md_all_9 : decode b_Md_all 9 = .ok (.iconst 0, 1) := by decide +kernel
theorem d_Md_all_10 : decode b_Md_all 10 = .ok (.istore 5, 2) := by decide +kernel
theorem d_Md_all_12 : decode b_Md_all 12 = .ok (.iload 5, 2) := by decide +kernel
theorem d_Md_all_14 : decode b_Md_all 14 = .ok (.iload_n 1, 1) := by decide +kernel
theorem d_Md_all_15 : decode b_Md_all 15 = .ok (.if_icmp .ge 44, 3) := by decide +kernel
theorem d_Md_all_18 : decode b_Md_all 18 = .ok (.aload_n 0, 1) := by decide +kernel
theorem d_Md_all_19 : decode b_Md_all 19 = .ok (.getfield 62, 3) := by decide +kernel
theorem d_Md_all_22 : decode b_Md_all 22 = .ok (.iload 5, 2) := by decide +kernel
theorem d_Md_all_24 : decode b_Md_all 24 = .ok (.aload_n 0, 1) := by decide +kernel
theorem d_Md_all_25 : decode b_Md_all 25 = .ok (.getfield 59, 3) := by decide +kernel
theorem d_Md_all_28 : decode b_Md_all 28 = .ok (.iload_n 2, 1) := by decide +kernel
theorem d_Md_all_29 : decode b_Md_all 29 = .ok (.ifCond .eq 14, 3) := by decide +kernel
theorem d_Md_all_32 : decode b_Md_all 32 = .ok (.bipush 8, 2) := by decide +kernel
theorem d_Md_all_34 : decode b_Md_all 34 = .ok (.iload 4, 2) := by decide +kernel
theorem d_Md_all_36 : decode b_Md_all 36 = .ok (.imul, 1) := by decide +kernel
theorem d_Md_all_37 : decode b_Md_all 37 = .ok (.iload 5, 2) := by decide +kernel
theorem d_Md_all_39 : decode b_Md_all 39 = .ok (.iadd, 1) := by decide +kernel
theorem d_Md_all_40 : decode b_Md_all 40 = .ok (.goto 11, 3) := by decide +kernel
theorem d_Md_all_43 : decode b_Md_all 43 = .ok (.bipush 8, 2) := by decide +kernel
theorem d_Md_all_45 : decode b_Md_all 45 = .ok (.iload 5, 2) := by decide +kernel
theorem d_Md_all_47 : decode b_Md_all 47 = .ok (.imul, 1) := by decide +kernel
theorem d_Md_all_48 : decode b_Md_all 48 = .ok (.iload 4, 2) := by decide +kernel
theorem d_Md_all_50 : decode b_Md_all 50 = .ok (.iadd, 1) := by decide +kernel
theorem d_Md_all_51 : decode b_Md_all 51 = .ok (.iaload, 1) := by decide +kernel
theorem d_Md_all_52 : decode b_Md_all 52 = .ok (.iastore, 1) := by decide +kernel
theorem d_Md_all_53 : decode b_Md_all 53 = .ok (.iinc 5 1, 3) := by decide +kernel
theorem d_Md_all_56 : decode b_Md_all 56 = .ok (.goto (-44), 3) := by decide +kernel
theorem d_Md_all_59 : decode b_Md_all 59 = .ok (.iload_n 3, 1) := by decide +kernel
theorem d_Md_all_60 : decode b_Md_all 60 = .ok (.ifCond .eq 11, 3) := by decide +kernel
theorem d_Md_all_63 : decode b_Md_all 63 = .ok (.aload_n 0, 1) := by decide +kernel
theorem d_Md_all_64 : decode b_Md_all 64 = .ok (.iload_n 1, 1) := by decide +kernel
theorem d_Md_all_65 : decode b_Md_all 65 = .ok (.invokevirtual 134, 3) := by decide +kernel
theorem d_Md_all_68 : decode b_Md_all 68 = .ok (.goto 8, 3) := by decide +kernel
theorem d_Md_all_71 : decode b_Md_all 71 = .ok (.aload_n 0, 1) := by decide +kernel
theorem d_Md_all_72 : decode b_Md_all 72 = .ok (.iload_n 1, 1) := by decide +kernel
theorem d_Md_all_73 : decode b_Md_all 73 = .ok (.invokevirtual 137, 3) := by decide +kernel
theorem d_Md_all_76 : decode b_Md_all 76 = .ok (.iconst 0, 1) := by decide +kernel
theorem d_Md_all_77 : decode b_Md_all 77 = .ok (.istore 5, 2) := by decide +kernel
theorem d_Md_all_79 : decode b_Md_all 79 = .ok (.iload 5, 2) := by decide +kernel
theorem d_Md_all_81 : decode b_Md_all 81 = .ok (.iload_n 1, 1) := by decide +kernel
theorem d_Md_all_82 : decode b_Md_all 82 = .ok (.if_icmp .ge 44, 3) := by decide +kernel
theorem d_Md_all_85 : decode b_Md_all 85 = .ok (.aload_n 0, 1) := by decide +kernel
theorem d_Md_all_86 : decode b_Md_all 86 = .ok (.getfield 59, 3) := by decide +kernel
theorem d_Md_all_89 : decode b_Md_all 89 = .ok (.iload_n 2, 1) := by decide +kernel
theorem d_Md_all_90 : decode b_Md_all 90 = .ok (.ifCond .eq 14, 3) := by decide +kernel
theorem d_Md_all_93 : decode b_Md_all 93 = .ok (.bipush 8, 2) := by decide +kernel
theorem d_Md_all_95 : decode b_Md_all 95 = .ok (.iload 4, 2) := by decide +kernel
theorem d_Md_all_97 : decode b_Md_all 97 = .ok (.imul, 1) := by decide +kernel
theorem d_Md_all_98 : decode b_Md_all 98 = .ok (.iload 5, 2) := by decide +kernel
theorem d_Md_all_100 : decode b_Md_all 100 = .ok (.iadd, 1) := by decide +kernel
theorem d_Md_all_101 : decode b_Md_all 101 = .ok (.goto 11, 3) := by decide +kernel
theorem d_Md_all_104 : decode b_Md_all 104 = .ok (.bipush 8, 2) := by decide +kernel
theorem d_Md_all_106 : decode b_Md_all 106 = .ok (.iload 5, 2) := by decide +kernel
theorem d_Md_all_108 : decode b_Md_all 108 = .ok (.imul, 1) := by decide +kernel
theorem d_Md_all_109 : decode b_Md_all 109 = .ok (.iload 4, 2) := by decide +kernel
theorem d_Md_all_111 : decode b_Md_all 111 = .ok (.iadd, 1) := by decide +kernel
theorem d_Md_all_112 : decode b_Md_all 112 = .ok (.aload_n 0, 1) := by decide +kernel
theorem d_Md_all_113 : decode b_Md_all 113 = .ok (.getfield 65, 3) := by decide +kernel
theorem d_Md_all_116 : decode b_Md_all 116 = .ok (.iload 5, 2) := by decide +kernel
theorem d_Md_all_118 : decode b_Md_all 118 = .ok (.iaload, 1) := by decide +kernel
theorem d_Md_all_119 : decode b_Md_all 119 = .ok (.iastore, 1) := by decide +kernel
theorem d_Md_all_120 : decode b_Md_all 120 = .ok (.iinc 5 1, 3) := by decide +kernel
theorem d_Md_all_123 : decode b_Md_all 123 = .ok (.goto (-44), 3) := by decide +kernel
theorem d_Md_all_126 : decode b_Md_all 126 = .ok (.iinc 4 1, 3) := by decide +kernel
theorem d_Md_all_129 : decode b_Md_all 129 = .ok (.goto (-126), 3) := by decide +kernel
theorem d_Md_all_132 : decode b_Md_all 132 = .ok (.return_, 1) := by decide +kernel
theorem d_Md_close_0 : decode b_Md_close 0 = .ok (.aload_n 0, 1) := by decide +kernel
theorem d_Md_close_1 : decode b_Md_close 1 = .ok (.getfield 32, 3) := by decide +kernel
theorem d_Md_close_4 : decode b_Md_close 4 = .ok (.iload_n 1, 1) := by decide +kernel
theorem d_Md_close_5 : decode b_Md_close 5 = .ok (.iconst 2, 1) := by decide +kernel
theorem d_Md_close_6 : decode b_Md_close 6 = .ok (.isub, 1) := by decide +kernel
theorem d_Md_close_7 : decode b_Md_close 7 = .ok (.aload_n 0, 1) := by decide +kernel
theorem d_Md_close_8 : decode b_Md_close 8 = .ok (.getfield 120, 3) := by decide +kernel
theorem d_Md_close_11 : decode b_Md_close 11 = .ok (.iload_n 1, 1) := by decide +kernel
theorem d_Md_close_12 : decode b_Md_close 12 = .ok (.isub, 1) := by decide +kernel
theorem d_Md_close_13 : decode b_Md_close 13 = .ok (.sipush 256, 3) := by decide +kernel
theorem d_Md_close_16 : decode b_Md_close 16 = .ok (.idiv, 1) := by decide +kernel
theorem d_Md_close_17 : decode b_Md_close 17 = .ok (.iastore, 1) := by decide +kernel
theorem d_Md_close_18 : decode b_Md_close 18 = .ok (.aload_n 0, 1) := by decide +kernel
theorem d_Md_close_19 : decode b_Md_close 19 = .ok (.getfield 32, 3) := by decide +kernel
theorem d_Md_close_22 : decode b_Md_close 22 = .ok (.iload_n 1, 1) := by decide +kernel
theorem d_Md_close_23 : decode b_Md_close 23 = .ok (.iconst 1, 1) := by decide +kernel
theorem d_Md_close_24 : decode b_Md_close 24 = .ok (.isub, 1) := by decide +kernel
theorem d_Md_close_25 : decode b_Md_close 25 = .ok (.aload_n 0, 1) := by decide +kernel
theorem d_Md_close_26 : decode b_Md_close 26 = .ok (.getfield 120, 3) := by decide +kernel
theorem d_Md_close_29 : decode b_Md_close 29 = .ok (.iload_n 1, 1) := by decide +kernel
theorem d_Md_close_30 : decode b_Md_close 30 = .ok (.isub, 1) := by decide +kernel
theorem d_Md_close_31 : decode b_Md_close 31 = .ok (.sipush 256, 3) := by decide +kernel
theorem d_Md_close_34 : decode b_Md_close 34 = .ok (.irem, 1) := by decide +kernel
theorem d_Md_close_35 : decode b_Md_close 35 = .ok (.iastore, 1) := by decide +kernel
theorem d_Md_close_36 : decode b_Md_close 36 = .ok (.return_, 1) := by decide +kernel
theorem d_Md_open_0 : decode b_Md_open 0 = .ok (.aload_n 0, 1) := by decide +kernel
theorem d_Md_open_1 : decode b_Md_open 1 = .ok (.iload_n 1, 1) := by decide +kernel
theorem d_Md_open_2 : decode b_Md_open 2 = .ok (.invokevirtual 123, 3) := by decide +kernel
theorem d_Md_open_5 : decode b_Md_open 5 = .ok (.aload_n 0, 1) := by decide +kernel
theorem d_Md_open_6 : decode b_Md_open 6 = .ok (.iconst 0, 1) := by decide +kernel
theorem d_Md_open_7 : decode b_Md_open 7 = .ok (.invokevirtual 123, 3) := by decide +kernel
theorem d_Md_open_10 : decode b_Md_open 10 = .ok (.aload_n 0, 1) := by decide +kernel
theorem d_Md_open_11 : decode b_Md_open 11 = .ok (.iconst 0, 1) := by decide +kernel
theorem d_Md_open_12 : decode b_Md_open 12 = .ok (.invokevirtual 123, 3) := by decide +kernel
theorem d_Md_open_15 : decode b_Md_open 15 = .ok (.aload_n 0, 1) := by decide +kernel
theorem d_Md_open_16 : decode b_Md_open 16 = .ok (.getfield 120, 3) := by decide +kernel
theorem d_Md_open_19 : decode b_Md_open 19 = .ok (.ireturn, 1) := by decide +kernel
theorem d_Md_putShape_0 : decode b_Md_putShape 0 = .ok (.aload_n 0, 1) := by decide +kernel
theorem d_Md_putShape_1 : decode b_Md_putShape 1 = .ok (.iconst 1, 1) := by decide +kernel
theorem d_Md_putShape_2 : decode b_Md_putShape 2 = .ok (.invokevirtual 140, 3) := by decide +kernel
theorem d_Md_putShape_5 : decode b_Md_putShape 5 = .ok (.istore_n 2, 1) := by decide +kernel
theorem d_Md_putShape_6 : decode b_Md_putShape 6 = .ok (.aload_n 0, 1) := by decide +kernel
theorem d_Md_putShape_7 : decode b_Md_putShape 7 = .ok (.aload_n 0, 1) := by decide +kernel
theorem d_Md_putShape_8 : decode b_Md_putShape 8 = .ok (.getfield 20, 3) := by decide +kernel
theorem d_Md_putShape_11 : decode b_Md_putShape 11 = .ok (.iload_n 1, 1) := by decide +kernel
theorem d_Md_putShape_12 : decode b_Md_putShape 12 = .ok (.iaload, 1) := by decide +kernel
theorem d_Md_putShape_13 : decode b_Md_putShape 13 = .ok (.iconst 1, 1) := by decide +kernel
theorem d_Md_putShape_14 : decode b_Md_putShape 14 = .ok (.iadd, 1) := by decide +kernel
theorem d_Md_putShape_15 : decode b_Md_putShape 15 = .ok (.invokevirtual 123, 3) := by decide +kernel
theorem d_Md_putShape_18 : decode b_Md_putShape 18 = .ok (.aload_n 0, 1) := by decide +kernel
theorem d_Md_putShape_19 : decode b_Md_putShape 19 = .ok (.bipush 16, 2) := by decide +kernel
theorem d_Md_putShape_21 : decode b_Md_putShape 21 = .ok (.aload_n 0, 1) := by decide +kernel
theorem d_Md_putShape_22 : decode b_Md_putShape 22 = .ok (.getfield 13, 3) := by decide +kernel
theorem d_Md_putShape_25 : decode b_Md_putShape 25 = .ok (.iload_n 1, 1) := by decide +kernel
theorem d_Md_putShape_26 : decode b_Md_putShape 26 = .ok (.iaload, 1) := by decide +kernel
theorem d_Md_putShape_27 : decode b_Md_putShape 27 = .ok (.iconst 1, 1) := by decide +kernel
theorem d_Md_putShape_28 : decode b_Md_putShape 28 = .ok (.isub, 1) := by decide +kernel
theorem d_Md_putShape_29 : decode b_Md_putShape 29 = .ok (.imul, 1) := by decide +kernel
theorem d_Md_putShape_30 : decode b_Md_putShape 30 = .ok (.aload_n 0, 1) := by decide +kernel
theorem d_Md_putShape_31 : decode b_Md_putShape 31 = .ok (.getfield 17, 3) := by decide +kernel
theorem d_Md_putShape_34 : decode b_Md_putShape 34 = .ok (.iload_n 1, 1) := by decide +kernel
theorem d_Md_putShape_35 : decode b_Md_putShape 35 = .ok (.iaload, 1) := by decide +kernel
theorem d_Md_putShape_36 : decode b_Md_putShape 36 = .ok (.iadd, 1) := by decide +kernel
theorem d_Md_putShape_37 : decode b_Md_putShape 37 = .ok (.iconst 1, 1) := by decide +kernel
theorem d_Md_putShape_38 : decode b_Md_putShape 38 = .ok (.isub, 1) := by decide +kernel
theorem d_Md_putShape_39 : decode b_Md_putShape 39 = .ok (.invokevirtual 123, 3) := by decide +kernel
theorem d_Md_putShape_42 : decode b_Md_putShape 42 = .ok (.aload_n 0, 1) := by decide +kernel
theorem d_Md_putShape_43 : decode b_Md_putShape 43 = .ok (.iconst 0, 1) := by decide +kernel
theorem d_Md_putShape_44 : decode b_Md_putShape 44 = .ok (.invokevirtual 107, 3) := by decide +kernel
theorem d_Md_putShape_47 : decode b_Md_putShape 47 = .ok (.aload_n 0, 1) := by decide +kernel
theorem d_Md_putShape_48 : decode b_Md_putShape 48 = .ok (.getfield 20, 3) := by decide +kernel
theorem d_Md_putShape_51 : decode b_Md_putShape 51 = .ok (.iload_n 1, 1) := by decide +kernel
theorem d_Md_putShape_52 : decode b_Md_putShape 52 = .ok (.iaload, 1) := by decide +kernel
theorem d_Md_putShape_53 : decode b_Md_putShape 53 = .ok (.ifCond .ge 7, 3) := by decide +kernel
theorem d_Md_putShape_56 : decode b_Md_putShape 56 = .ok (.lconst 0, 1) := by decide +kernel
theorem d_Md_putShape_57 : decode b_Md_putShape 57 = .ok (.goto 14, 3) := by decide +kernel
theorem d_Md_putShape_60 : decode b_Md_putShape 60 = .ok (.aload_n 0, 1) := by decide +kernel
theorem d_Md_putShape_61 : decode b_Md_putShape 61 = .ok (.getfield 7, 3) := by decide +kernel
theorem d_Md_putShape_64 : decode b_Md_putShape 64 = .ok (.aload_n 0, 1) := by decide +kernel
theorem d_Md_putShape_65 : decode b_Md_putShape 65 = .ok (.getfield 20, 3) := by decide +kernel
theorem d_Md_putShape_68 : decode b_Md_putShape 68 = .ok (.iload_n 1, 1) := by decide +kernel
theorem d_Md_putShape_69 : decode b_Md_putShape 69 = .ok (.iaload, 1) := by decide +kernel
theorem d_Md_putShape_70 : decode b_Md_putShape 70 = .ok (.laload, 1) := by decide +kernel
theorem d_Md_putShape_71 : decode b_Md_putShape 71 = .ok (.lstore_n 3, 1) := by decide +kernel
theorem d_Md_putShape_72 : decode b_Md_putShape 72 = .ok (.aload_n 0, 1) := by decide +kernel
theorem d_Md_putShape_73 : decode b_Md_putShape 73 = .ok (.aload_n 0, 1) := by decide +kernel
theorem d_Md_putShape_74 : decode b_Md_putShape 74 = .ok (.getfield 7, 3) := by decide +kernel
theorem d_Md_putShape_77 : decode b_Md_putShape 77 = .ok (.iload_n 1, 1) := by decide +kernel
theorem d_Md_putShape_78 : decode b_Md_putShape 78 = .ok (.laload, 1) := by decide +kernel
theorem d_Md_putShape_79 : decode b_Md_putShape 79 = .ok (.aload_n 0, 1) := by decide +kernel
theorem d_Md_putShape_80 : decode b_Md_putShape 80 = .ok (.getfield 13, 3) := by decide +kernel
theorem d_Md_putShape_83 : decode b_Md_putShape 83 = .ok (.iload_n 1, 1) := by decide +kernel
theorem d_Md_putShape_84 : decode b_Md_putShape 84 = .ok (.iaload, 1) := by decide +kernel
theorem d_Md_putShape_85 : decode b_Md_putShape 85 = .ok (.aload_n 0, 1) := by decide +kernel
theorem d_Md_putShape_86 : decode b_Md_putShape 86 = .ok (.getfield 17, 3) := by decide +kernel
theorem d_Md_putShape_89 : decode b_Md_putShape 89 = .ok (.iload_n 1, 1) := by decide +kernel
theorem d_Md_putShape_90 : decode b_Md_putShape 90 = .ok (.iaload, 1) := by decide +kernel
theorem d_Md_putShape_91 : decode b_Md_putShape 91 = .ok (.aload_n 0, 1) := by decide +kernel
theorem d_Md_putShape_92 : decode b_Md_putShape 92 = .ok (.getfield 20, 3) := by decide +kernel
theorem d_Md_putShape_95 : decode b_Md_putShape 95 = .ok (.iload_n 1, 1) := by decide +kernel
theorem d_Md_putShape_96 : decode b_Md_putShape 96 = .ok (.iaload, 1) := by decide +kernel
theorem d_Md_putShape_97 : decode b_Md_putShape 97 = .ok (.ifCond .lt 7, 3) := by decide +kernel
theorem d_Md_putShape_100 : decode b_Md_putShape 100 = .ok (.iconst 1, 1) := by decide +kernel
theorem d_Md_putShape_101 : decode b_Md_putShape 101 = .ok (.goto 4, 3) := by decide +kernel
theorem d_Md_putShape_104 : decode b_Md_putShape 104 = .ok (.iconst 0, 1) := by decide +kernel
theorem d_Md_putShape_105 : decode b_Md_putShape 105 = .ok (.lload_n 3, 1) := by decide +kernel
theorem d_Md_putShape_106 : decode b_Md_putShape 106 = .ok (.invokevirtual 143, 3) := by decide +kernel
theorem d_Md_putShape_109 : decode b_Md_putShape 109 = .ok (.pop2, 1) := by decide +kernel
theorem d_Md_putShape_110 : decode b_Md_putShape 110 = .ok (.aload_n 0, 1) := by decide +kernel
theorem d_Md_putShape_111 : decode b_Md_putShape 111 = .ok (.invokevirtual 147, 3) := by decide +kernel
theorem d_Md_putShape_114 : decode b_Md_putShape 114 = .ok (.aload_n 0, 1) := by decide +kernel
theorem d_Md_putShape_115 : decode b_Md_putShape 115 = .ok (.iload_n 2, 1) := by decide +kernel
theorem d_Md_putShape_116 : decode b_Md_putShape 116 = .ok (.invokevirtual 150, 3) := by decide +kernel
theorem d_Md_putShape_119 : decode b_Md_putShape 119 = .ok (.return_, 1) := by decide +kernel
theorem d_Md_putLayer_0 : decode b_Md_putLayer 0 = .ok (.iload_n 1, 1) := by decide +kernel
theorem d_Md_putLayer_1 : decode b_Md_putLayer 1 = .ok (.invokestatic 90, 3) := by decide +kernel
theorem d_Md_putLayer_4 : decode b_Md_putLayer 4 = .ok (.istore_n 3, 1) := by decide +kernel
theorem d_Md_putLayer_5 : decode b_Md_putLayer 5 = .ok (.iconst 0, 1) := by decide +kernel
theorem d_Md_putLayer_6 : decode b_Md_putLayer 6 = .ok (.istore 4, 2) := by decide +kernel
theorem d_Md_putLayer_8 : decode b_Md_putLayer 8 = .ok (.iload 4, 2) := by decide +kernel
theorem d_Md_putLayer_10 : decode b_Md_putLayer 10 = .ok (.bipush 64, 2) := by decide +kernel
theorem d_Md_putLayer_12 : decode b_Md_putLayer 12 = .ok (.if_icmp .ge 28, 3) := by decide +kernel
theorem d_Md_putLayer_15 : decode b_Md_putLayer 15 = .ok (.aload_n 0, 1) := by decide +kernel
theorem d_Md_putLayer_16 : decode b_Md_putLayer 16 = .ok (.getfield 59, 3) := by decide +kernel
theorem d_Md_putLayer_19 : decode b_Md_putLayer 19 = .ok (.iload 4, 2) := by decide +kernel
theorem d_Md_putLayer_21 : decode b_Md_putLayer 21 = .ok (.aload_n 0, 1) := by decide +kernel
theorem d_Md_putLayer_22 : decode b_Md_putLayer 22 = .ok (.getfield 29, 3) := by decide +kernel
theorem d_Md_putLayer_25 : decode b_Md_putLayer 25 = .ok (.bipush 64, 2) := by decide +kernel
theorem d_Md_putLayer_27 : decode b_Md_putLayer 27 = .ok (.iload_n 1, 1) := by decide +kernel
theorem d_Md_putLayer_28 : decode b_Md_putLayer 28 = .ok (.imul, 1) := by decide +kernel
theorem d_Md_putLayer_29 : decode b_Md_putLayer 29 = .ok (.iload 4, 2) := by decide +kernel
theorem d_Md_putLayer_31 : decode b_Md_putLayer 31 = .ok (.iadd, 1) := by decide +kernel
theorem d_Md_putLayer_32 : decode b_Md_putLayer 32 = .ok (.iaload, 1) := by decide +kernel
theorem d_Md_putLayer_33 : decode b_Md_putLayer 33 = .ok (.iastore, 1) := by decide +kernel
theorem d_Md_putLayer_34 : decode b_Md_putLayer 34 = .ok (.iinc 4 1, 3) := by decide +kernel
theorem d_Md_putLayer_37 : decode b_Md_putLayer 37 = .ok (.goto (-29), 3) := by decide +kernel
theorem d_Md_putLayer_40 : decode b_Md_putLayer 40 = .ok (.iload_n 3, 1) := by decide +kernel
theorem d_Md_putLayer_41 : decode b_Md_putLayer 41 = .ok (.istore 4, 2) := by decide +kernel
theorem d_Md_putLayer_43 : decode b_Md_putLayer 43 = .ok (.iload 4, 2) := by decide +kernel
theorem d_Md_putLayer_45 : decode b_Md_putLayer 45 = .ok (.iconst 2, 1) := by decide +kernel
theorem d_Md_putLayer_46 : decode b_Md_putLayer 46 = .ok (.if_icmp .lt 28, 3) := by decide +kernel
theorem d_Md_putLayer_49 : decode b_Md_putLayer 49 = .ok (.aload_n 0, 1) := by decide +kernel
theorem d_Md_putLayer_50 : decode b_Md_putLayer 50 = .ok (.iload 4, 2) := by decide +kernel
theorem d_Md_putLayer_52 : decode b_Md_putLayer 52 = .ok (.iconst 1, 1) := by decide +kernel
theorem d_Md_putLayer_53 : decode b_Md_putLayer 53 = .ok (.iconst 1, 1) := by decide +kernel
theorem d_Md_putLayer_54 : decode b_Md_putLayer 54 = .ok (.invokevirtual 153, 3) := by decide +kernel
theorem d_Md_putLayer_57 : decode b_Md_putLayer 57 = .ok (.aload_n 0, 1) := by decide +kernel
theorem d_Md_putLayer_58 : decode b_Md_putLayer 58 = .ok (.iload 4, 2) := by decide +kernel
theorem d_Md_putLayer_60 : decode b_Md_putLayer 60 = .ok (.iconst 0, 1) := by decide +kernel
theorem d_Md_putLayer_61 : decode b_Md_putLayer 61 = .ok (.iconst 1, 1) := by decide +kernel
theorem d_Md_putLayer_62 : decode b_Md_putLayer 62 = .ok (.invokevirtual 153, 3) := by decide +kernel
theorem d_Md_putLayer_65 : decode b_Md_putLayer 65 = .ok (.iload 4, 2) := by decide +kernel
theorem d_Md_putLayer_67 : decode b_Md_putLayer 67 = .ok (.iconst 2, 1) := by decide +kernel
theorem d_Md_putLayer_68 : decode b_Md_putLayer 68 = .ok (.idiv, 1) := by decide +kernel
theorem d_Md_putLayer_69 : decode b_Md_putLayer 69 = .ok (.istore 4, 2) := by decide +kernel
theorem d_Md_putLayer_71 : decode b_Md_putLayer 71 = .ok (.goto (-28), 3) := by decide +kernel
theorem d_Md_putLayer_74 : decode b_Md_putLayer 74 = .ok (.aload_n 0, 1) := by decide +kernel
theorem d_Md_putLayer_75 : decode b_Md_putLayer 75 = .ok (.iconst 3, 1) := by decide +kernel
theorem d_Md_putLayer_76 : decode b_Md_putLayer 76 = .ok (.iload_n 1, 1) := by decide +kernel
theorem d_Md_putLayer_77 : decode b_Md_putLayer 77 = .ok (.iadd, 1) := by decide +kernel
theorem d_Md_putLayer_78 : decode b_Md_putLayer 78 = .ok (.invokevirtual 140, 3) := by decide +kernel
theorem d_Md_putLayer_81 : decode b_Md_putLayer 81 = .ok (.istore 4, 2) := by decide +kernel
theorem d_Md_putLayer_83 : decode b_Md_putLayer 83 = .ok (.aload_n 0, 1) := by decide +kernel
theorem d_Md_putLayer_84 : decode b_Md_putLayer 84 = .ok (.iload_n 2, 1) := by decide +kernel
theorem d_Md_putLayer_85 : decode b_Md_putLayer 85 = .ok (.invokevirtual 123, 3) := by decide +kernel
theorem d_Md_putLayer_88 : decode b_Md_putLayer 88 = .ok (.aload_n 0, 1) := by decide +kernel
theorem d_Md_putLayer_89 : decode b_Md_putLayer 89 = .ok (.iconst 0, 1) := by decide +kernel
theorem d_Md_putLayer_90 : decode b_Md_putLayer 90 = .ok (.invokevirtual 107, 3) := by decide +kernel
theorem d_Md_putLayer_93 : decode b_Md_putLayer 93 = .ok (.aload_n 0, 1) := by decide +kernel
theorem d_Md_putLayer_94 : decode b_Md_putLayer 94 = .ok (.iload_n 3, 1) := by decide +kernel
theorem d_Md_putLayer_95 : decode b_Md_putLayer 95 = .ok (.iload_n 2, 1) := by decide +kernel
theorem d_Md_putLayer_96 : decode b_Md_putLayer 96 = .ok (.invokevirtual 157, 3) := by decide +kernel
theorem d_Md_putLayer_99 : decode b_Md_putLayer 99 = .ok (.aload_n 0, 1) := by decide +kernel
theorem d_Md_putLayer_100 : decode b_Md_putLayer 100 = .ok (.invokevirtual 147, 3) := by decide +kernel
theorem d_Md_putLayer_103 : decode b_Md_putLayer 103 = .ok (.aload_n 0, 1) := by decide +kernel
theorem d_Md_putLayer_104 : decode b_Md_putLayer 104 = .ok (.iload 4, 2) := by decide +kernel
theorem d_Md_putLayer_106 : decode b_Md_putLayer 106 = .ok (.invokevirtual 150, 3) := by decide +kernel
theorem d_Md_putLayer_109 : decode b_Md_putLayer 109 = .ok (.return_, 1) := by decide +kernel
theorem d_Md_encode_0 : decode b_Md_encode 0 = .ok (.iload_n 1, 1) := by decide +kernel
theorem d_Md_encode_1 : decode b_Md_encode 1 = .ok (.bipush 10, 2) := by decide +kernel
theorem d_Md_encode_3 : decode b_Md_encode 3 = .ok (.invokestatic 75, 3) := by decide +kernel
theorem d_Md_encode_6 : decode b_Md_encode 6 = .ok (.ifCond .eq 5, 3) := by decide +kernel
theorem d_Md_encode_9 : decode b_Md_encode 9 = .ok (.iconst (-1), 1) := by decide +kernel
theorem d_Md_encode_10 : decode b_Md_encode 10 = .ok (.ireturn, 1) := by decide +kernel
theorem d_Md_encode_11 : decode b_Md_encode 11 = .ok (.aload_n 0, 1) := by decide +kernel
theorem d_Md_encode_12 : decode b_Md_encode 12 = .ok (.iconst 0, 1) := by decide +kernel
theorem d_Md_encode_13 : decode b_Md_encode 13 = .ok (.putfield 120, 3) := by decide +kernel
theorem d_Md_encode_16 : decode b_Md_encode 16 = .ok (.aload_n 0, 1) := by decide +kernel
theorem d_Md_encode_17 : decode b_Md_encode 17 = .ok (.bipush 80, 2) := by decide +kernel
theorem d_Md_encode_19 : decode b_Md_encode 19 = .ok (.invokevirtual 123, 3) := by decide +kernel
theorem d_Md_encode_22 : decode b_Md_encode 22 = .ok (.aload_n 0, 1) := by decide +kernel
theorem d_Md_encode_23 : decode b_Md_encode 23 = .ok (.bipush 71, 2) := by decide +kernel
theorem d_Md_encode_25 : decode b_Md_encode 25 = .ok (.invokevirtual 123, 3) := by decide +kernel
theorem d_Md_encode_28 : decode b_Md_encode 28 = .ok (.iconst 0, 1) := by decide +kernel
theorem d_Md_encode_29 : decode b_Md_encode 29 = .ok (.istore_n 2, 1) := by decide +kernel
theorem d_Md_encode_30 : decode b_Md_encode 30 = .ok (.iload_n 2, 1) := by decide +kernel
theorem d_Md_encode_31 : decode b_Md_encode 31 = .ok (.aload_n 0, 1) := by decide +kernel
theorem d_Md_encode_32 : decode b_Md_encode 32 = .ok (.getfield 79, 3) := by decide +kernel
theorem d_Md_encode_35 : decode b_Md_encode 35 = .ok (.if_icmp .ge 14, 3) := by decide +kernel
theorem d_Md_encode_38 : decode b_Md_encode 38 = .ok (.aload_n 0, 1) := by decide +kernel
theorem d_Md_encode_39 : decode b_Md_encode 39 = .ok (.iload_n 2, 1) := by decide +kernel
theorem d_Md_encode_40 : decode b_Md_encode 40 = .ok (.invokevirtual 160, 3) := by decide +kernel
theorem d_Md_encode_43 : decode b_Md_encode 43 = .ok (.iinc 2 1, 3) := by decide +kernel
theorem d_Md_encode_46 : decode b_Md_encode 46 = .ok (.goto (-16), 3) := by decide +kernel
theorem d_Md_encode_49 : decode b_Md_encode 49 = .ok (.aload_n 0, 1) := by decide +kernel
theorem d_Md_encode_50 : decode b_Md_encode 50 = .ok (.iconst 2, 1) := by decide +kernel
theorem d_Md_encode_51 : decode b_Md_encode 51 = .ok (.invokevirtual 140, 3) := by decide +kernel
theorem d_Md_encode_54 : decode b_Md_encode 54 = .ok (.istore_n 2, 1) := by decide +kernel
theorem d_Md_encode_55 : decode b_Md_encode 55 = .ok (.iconst 0, 1) := by decide +kernel
theorem d_Md_encode_56 : decode b_Md_encode 56 = .ok (.istore_n 3, 1) := by decide +kernel
theorem d_Md_encode_57 : decode b_Md_encode 57 = .ok (.iload_n 3, 1) := by decide +kernel
theorem d_Md_encode_58 : decode b_Md_encode 58 = .ok (.aload_n 0, 1) := by decide +kernel
theorem d_Md_encode_59 : decode b_Md_encode 59 = .ok (.getfield 87, 3) := by decide +kernel
theorem d_Md_encode_62 : decode b_Md_encode 62 = .ok (.if_icmp .ge 29, 3) := by decide +kernel
theorem d_Md_encode_65 : decode b_Md_encode 65 = .ok (.aload_n 0, 1) := by decide +kernel
theorem d_Md_encode_66 : decode b_Md_encode 66 = .ok (.aload_n 0, 1) := by decide +kernel
theorem d_Md_encode_67 : decode b_Md_encode 67 = .ok (.getfield 23, 3) := by decide +kernel
theorem d_Md_encode_70 : decode b_Md_encode 70 = .ok (.iload_n 3, 1) := by decide +kernel
theorem d_Md_encode_71 : decode b_Md_encode 71 = .ok (.iaload, 1) := by decide +kernel
theorem d_Md_encode_72 : decode b_Md_encode 72 = .ok (.invokevirtual 123, 3) := by decide +kernel
theorem d_Md_encode_75 : decode b_Md_encode 75 = .ok (.aload_n 0, 1) := by decide +kernel
theorem d_Md_encode_76 : decode b_Md_encode 76 = .ok (.aload_n 0, 1) := by decide +kernel
theorem d_Md_encode_77 : decode b_Md_encode 77 = .ok (.getfield 26, 3) := by decide +kernel
theorem d_Md_encode_80 : decode b_Md_encode 80 = .ok (.iload_n 3, 1) := by decide +kernel
theorem d_Md_encode_81 : decode b_Md_encode 81 = .ok (.iaload, 1) := by decide +kernel
theorem d_Md_encode_82 : decode b_Md_encode 82 = .ok (.invokevirtual 123, 3) := by decide +kernel
theorem d_Md_encode_85 : decode b_Md_encode 85 = .ok (.iinc 3 1, 3) := by decide +kernel
theorem d_Md_encode_88 : decode b_Md_encode 88 = .ok (.goto (-31), 3) := by decide +kernel
theorem d_Md_encode_91 : decode b_Md_encode 91 = .ok (.aload_n 0, 1) := by decide +kernel
theorem d_Md_encode_92 : decode b_Md_encode 92 = .ok (.iload_n 2, 1) := by decide +kernel
theorem d_Md_encode_93 : decode b_Md_encode 93 = .ok (.invokevirtual 150, 3) := by decide +kernel
theorem d_Md_encode_96 : decode b_Md_encode 96 = .ok (.aload_n 0, 1) := by decide +kernel
theorem d_Md_encode_97 : decode b_Md_encode 97 = .ok (.iconst 0, 1) := by decide +kernel
theorem d_Md_encode_98 : decode b_Md_encode 98 = .ok (.iload_n 1, 1) := by decide +kernel
theorem d_Md_encode_99 : decode b_Md_encode 99 = .ok (.invokevirtual 162, 3) := by decide +kernel
theorem d_Md_encode_102 : decode b_Md_encode 102 = .ok (.aload_n 0, 1) := by decide +kernel
theorem d_Md_encode_103 : decode b_Md_encode 103 = .ok (.iconst 1, 1) := by decide +kernel
theorem d_Md_encode_104 : decode b_Md_encode 104 = .ok (.iload_n 1, 1) := by decide +kernel
theorem d_Md_encode_105 : decode b_Md_encode 105 = .ok (.invokevirtual 162, 3) := by decide +kernel
theorem d_Md_encode_108 : decode b_Md_encode 108 = .ok (.aload_n 0, 1) := by decide +kernel
theorem d_Md_encode_109 : decode b_Md_encode 109 = .ok (.getfield 120, 3) := by decide +kernel
theorem d_Md_encode_112 : decode b_Md_encode 112 = .ok (.ireturn, 1) := by decide +kernel
theorem d_Md_length_0 : decode b_Md_length 0 = .ok (.aload_n 0, 1) := by decide +kernel
theorem d_Md_length_1 : decode b_Md_length 1 = .ok (.getfield 120, 3) := by decide +kernel
theorem d_Md_length_4 : decode b_Md_length 4 = .ok (.ireturn, 1) := by decide +kernel
theorem d_Md_octet_0 : decode b_Md_octet 0 = .ok (.iload_n 1, 1) := by decide +kernel
theorem d_Md_octet_1 : decode b_Md_octet 1 = .ok (.aload_n 0, 1) := by decide +kernel
theorem d_Md_octet_2 : decode b_Md_octet 2 = .ok (.getfield 120, 3) := by decide +kernel
theorem d_Md_octet_5 : decode b_Md_octet 5 = .ok (.iconst 1, 1) := by decide +kernel
theorem d_Md_octet_6 : decode b_Md_octet 6 = .ok (.isub, 1) := by decide +kernel
theorem d_Md_octet_7 : decode b_Md_octet 7 = .ok (.invokestatic 75, 3) := by decide +kernel
theorem d_Md_octet_10 : decode b_Md_octet 10 = .ok (.ifCond .eq 7, 3) := by decide +kernel
theorem d_Md_octet_13 : decode b_Md_octet 13 = .ok (.iconst (-1), 1) := by decide +kernel
theorem d_Md_octet_14 : decode b_Md_octet 14 = .ok (.goto 9, 3) := by decide +kernel
theorem d_Md_octet_17 : decode b_Md_octet 17 = .ok (.aload_n 0, 1) := by decide +kernel
theorem d_Md_octet_18 : decode b_Md_octet 18 = .ok (.getfield 32, 3) := by decide +kernel
theorem d_Md_octet_21 : decode b_Md_octet 21 = .ok (.iload_n 1, 1) := by decide +kernel
theorem d_Md_octet_22 : decode b_Md_octet 22 = .ok (.iaload, 1) := by decide +kernel
theorem d_Md_octet_23 : decode b_Md_octet 23 = .ok (.ireturn, 1) := by decide +kernel
theorem d_Md_alter_0 : decode b_Md_alter 0 = .ok (.iload_n 1, 1) := by decide +kernel
theorem d_Md_alter_1 : decode b_Md_alter 1 = .ok (.aload_n 0, 1) := by decide +kernel
theorem d_Md_alter_2 : decode b_Md_alter 2 = .ok (.getfield 120, 3) := by decide +kernel
theorem d_Md_alter_5 : decode b_Md_alter 5 = .ok (.invokestatic 75, 3) := by decide +kernel
theorem d_Md_alter_8 : decode b_Md_alter 8 = .ok (.ifCond .ne 20, 3) := by decide +kernel
theorem d_Md_alter_11 : decode b_Md_alter 11 = .ok (.iload_n 1, 1) := by decide +kernel
theorem d_Md_alter_12 : decode b_Md_alter 12 = .ok (.sipush 1200, 3) := by decide +kernel
theorem d_Md_alter_15 : decode b_Md_alter 15 = .ok (.if_icmp .eq 13, 3) := by decide +kernel
theorem d_Md_alter_18 : decode b_Md_alter 18 = .ok (.iload_n 2, 1) := by decide +kernel
theorem d_Md_alter_19 : decode b_Md_alter 19 = .ok (.sipush 255, 3) := by decide +kernel
theorem d_Md_alter_22 : decode b_Md_alter 22 = .ok (.invokestatic 75, 3) := by decide +kernel
theorem d_Md_alter_25 : decode b_Md_alter 25 = .ok (.ifCond .eq 5, 3) := by decide +kernel
theorem d_Md_alter_28 : decode b_Md_alter 28 = .ok (.iconst 0, 1) := by decide +kernel
theorem d_Md_alter_29 : decode b_Md_alter 29 = .ok (.ireturn, 1) := by decide +kernel
theorem d_Md_alter_30 : decode b_Md_alter 30 = .ok (.aload_n 0, 1) := by decide +kernel
theorem d_Md_alter_31 : decode b_Md_alter 31 = .ok (.getfield 32, 3) := by decide +kernel
theorem d_Md_alter_34 : decode b_Md_alter 34 = .ok (.iload_n 1, 1) := by decide +kernel
theorem d_Md_alter_35 : decode b_Md_alter 35 = .ok (.iload_n 2, 1) := by decide +kernel
theorem d_Md_alter_36 : decode b_Md_alter 36 = .ok (.iastore, 1) := by decide +kernel
theorem d_Md_alter_37 : decode b_Md_alter 37 = .ok (.aload_n 0, 1) := by decide +kernel
theorem d_Md_alter_38 : decode b_Md_alter 38 = .ok (.iload_n 1, 1) := by decide +kernel
theorem d_Md_alter_39 : decode b_Md_alter 39 = .ok (.aload_n 0, 1) := by decide +kernel
theorem d_Md_alter_40 : decode b_Md_alter 40 = .ok (.getfield 120, 3) := by decide +kernel
theorem d_Md_alter_43 : decode b_Md_alter 43 = .ok (.if_icmp .ne 12, 3) := by decide +kernel
theorem d_Md_alter_46 : decode b_Md_alter 46 = .ok (.aload_n 0, 1) := by decide +kernel
theorem d_Md_alter_47 : decode b_Md_alter 47 = .ok (.getfield 120, 3) := by decide +kernel
theorem d_Md_alter_50 : decode b_Md_alter 50 = .ok (.iconst 1, 1) := by decide +kernel
theorem d_Md_alter_51 : decode b_Md_alter 51 = .ok (.iadd, 1) := by decide +kernel
theorem d_Md_alter_52 : decode b_Md_alter 52 = .ok (.goto 7, 3) := by decide +kernel
theorem d_Md_alter_55 : decode b_Md_alter 55 = .ok (.aload_n 0, 1) := by decide +kernel
theorem d_Md_alter_56 : decode b_Md_alter 56 = .ok (.getfield 120, 3) := by decide +kernel
theorem d_Md_alter_59 : decode b_Md_alter 59 = .ok (.putfield 120, 3) := by decide +kernel
theorem d_Md_alter_62 : decode b_Md_alter 62 = .ok (.iconst 1, 1) := by decide +kernel
theorem d_Md_alter_63 : decode b_Md_alter 63 = .ok (.ireturn, 1) := by decide +kernel
