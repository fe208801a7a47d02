theorem d_LP_init_0 : decode b_LP_init 0 = .ok (.aload_n 0, 1) := by decide +kernel
theorem d_LP_init_1 : decode b_LP_init 1 = .ok (.invokespecial 3, 3) := by decide +kernel
theorem d_LP_init_4 : decode b_LP_init 4 = .ok (.aload_n 0, 1) := by decide +kernel
theorem d_LP_init_5 : decode b_LP_init 5 = .ok (.new 9, 3) := by decide +kernel
theorem d_LP_init_8 : decode b_LP_init 8 = .ok (.dup, 1) := by decide +kernel
theorem d_LP_init_9 : decode b_LP_init 9 = .ok (.invokespecial 11, 3) := by decide +kernel
theorem d_LP_init_12 : decode b_LP_init 12 = .ok (.putfield 12, 3) := by decide +kernel
theorem d_LP_init_15 : decode b_LP_init 15 = .ok (.aload_n 0, 1) := by decide +kernel
theorem d_LP_init_16 : decode b_LP_init 16 = .ok (.new 16, 3) := by decide +kernel
theorem d_LP_init_19 : decode b_LP_init 19 = .ok (.dup, 1) := by decide +kernel
theorem d_LP_init_20 : decode b_LP_init 20 = .ok (.invokespecial 18, 3) := by decide +kernel
theorem d_LP_init_23 : decode b_LP_init 23 = .ok (.putfield 19, 3) := by decide +kernel
theorem d_LP_init_26 : decode b_LP_init 26 = .ok (.aload_n 0, 1) := by decide +kernel
theorem d_LP_init_27 : decode b_LP_init 27 = .ok (.new 23, 3) := by decide +kernel
theorem d_LP_init_30 : decode b_LP_init 30 = .ok (.dup, 1) := by decide +kernel
theorem d_LP_init_31 : decode b_LP_init 31 = .ok (.invokespecial 25, 3) := by decide +kernel
theorem d_LP_init_34 : decode b_LP_init 34 = .ok (.putfield 26, 3) := by decide +kernel
theorem d_LP_init_37 : decode b_LP_init 37 = .ok (.aload_n 0, 1) := by decide +kernel
theorem d_LP_init_38 : decode b_LP_init 38 = .ok (.new 30, 3) := by decide +kernel
theorem d_LP_init_41 : decode b_LP_init 41 = .ok (.dup, 1) := by decide +kernel
theorem d_LP_init_42 : decode b_LP_init 42 = .ok (.invokespecial 32, 3) := by decide +kernel
theorem d_LP_init_45 : decode b_LP_init 45 = .ok (.putfield 33, 3) := by decide +kernel
theorem d_LP_init_48 : decode b_LP_init 48 = .ok (.aload_n 0, 1) := by decide +kernel
theorem d_LP_init_49 : decode b_LP_init 49 = .ok (.iconst 0, 1) := by decide +kernel
theorem d_LP_init_50 : decode b_LP_init 50 = .ok (.putfield 37, 3) := by decide +kernel
theorem d_LP_init_53 : decode b_LP_init 53 = .ok (.aload_n 0, 1) := by decide +kernel
theorem d_LP_init_54 : decode b_LP_init 54 = .ok (.new 30, 3) := by decide +kernel
theorem d_LP_init_57 : decode b_LP_init 57 = .ok (.dup, 1) := by decide +kernel
theorem d_LP_init_58 : decode b_LP_init 58 = .ok (.invokespecial 32, 3) := by decide +kernel
theorem d_LP_init_61 : decode b_LP_init 61 = .ok (.putfield 41, 3) := by decide +kernel
theorem d_LP_init_64 : decode b_LP_init 64 = .ok (.aload_n 0, 1) := by decide +kernel
theorem d_LP_init_65 : decode b_LP_init 65 = .ok (.new 30, 3) := by decide +kernel
theorem d_LP_init_68 : decode b_LP_init 68 = .ok (.dup, 1) := by decide +kernel
theorem d_LP_init_69 : decode b_LP_init 69 = .ok (.invokespecial 32, 3) := by decide +kernel
theorem d_LP_init_72 : decode b_LP_init 72 = .ok (.putfield 44, 3) := by decide +kernel
theorem d_LP_init_75 : decode b_LP_init 75 = .ok (.return_, 1) := by decide +kernel
theorem d_LP_shape_0 : decode b_LP_shape 0 = .ok (.iload 5, 2) := by decide +kernel
theorem d_LP_shape_2 : decode b_LP_shape 2 = .ok (.iconst (-1), 1) := by decide +kernel
theorem d_LP_shape_3 : decode b_LP_shape 3 = .ok (.if_icmp .eq 15, 3) := by decide +kernel
theorem d_LP_shape_6 : decode b_LP_shape 6 = .ok (.aload_n 0, 1) := by decide +kernel
theorem d_LP_shape_7 : decode b_LP_shape 7 = .ok (.getfield 33, 3) := by decide +kernel
theorem d_LP_shape_10 : decode b_LP_shape 10 = .ok (.iload 5, 2) := by decide +kernel
theorem d_LP_shape_12 : decode b_LP_shape 12 = .ok (.invokevirtual 47, 3) := by decide +kernel
theorem d_LP_shape_15 : decode b_LP_shape 15 = .ok (.ifCond .eq 7, 3) := by decide +kernel
theorem d_LP_shape_18 : decode b_LP_shape 18 = .ok (.iconst 1, 1) := by decide +kernel
theorem d_LP_shape_19 : decode b_LP_shape 19 = .ok (.goto 4, 3) := by decide +kernel
theorem d_LP_shape_22 : decode b_LP_shape 22 = .ok (.iconst 0, 1) := by decide +kernel
theorem d_LP_shape_23 : decode b_LP_shape 23 = .ok (.istore 6, 2) := by decide +kernel
theorem d_LP_shape_25 : decode b_LP_shape 25 = .ok (.iload 6, 2) := by decide +kernel
theorem d_LP_shape_27 : decode b_LP_shape 27 = .ok (.ifCond .eq 35, 3) := by decide +kernel
theorem d_LP_shape_30 : decode b_LP_shape 30 = .ok (.iload_n 3, 1) := by decide +kernel
theorem d_LP_shape_31 : decode b_LP_shape 31 = .ok (.invokestatic 51, 3) := by decide +kernel
theorem d_LP_shape_34 : decode b_LP_shape 34 = .ok (.ifCond .eq 28, 3) := by decide +kernel
theorem d_LP_shape_37 : decode b_LP_shape 37 = .ok (.iload 4, 2) := by decide +kernel
theorem d_LP_shape_39 : decode b_LP_shape 39 = .ok (.invokestatic 51, 3) := by decide +kernel
theorem d_LP_shape_42 : decode b_LP_shape 42 = .ok (.ifCond .eq 20, 3) := by decide +kernel
theorem d_LP_shape_45 : decode b_LP_shape 45 = .ok (.lload_n 1, 1) := by decide +kernel
theorem d_LP_shape_46 : decode b_LP_shape 46 = .ok (.iload_n 3, 1) := by decide +kernel
theorem d_LP_shape_47 : decode b_LP_shape 47 = .ok (.iload 4, 2) := by decide +kernel
theorem d_LP_shape_49 : decode b_LP_shape 49 = .ok (.invokestatic 54, 3) := by decide +kernel
theorem d_LP_shape_52 : decode b_LP_shape 52 = .ok (.ldc2_w 58, 3) := by decide +kernel
theorem d_LP_shape_55 : decode b_LP_shape 55 = .ok (.lxor, 1) := by decide +kernel
theorem d_LP_shape_56 : decode b_LP_shape 56 = .ok (.land, 1) := by decide +kernel
theorem d_LP_shape_57 : decode b_LP_shape 57 = .ok (.lconst 0, 1) := by decide +kernel
theorem d_LP_shape_58 : decode b_LP_shape 58 = .ok (.lcmp, 1) := by decide +kernel
theorem d_LP_shape_59 : decode b_LP_shape 59 = .ok (.ifCond .eq 5, 3) := by decide +kernel
theorem d_LP_shape_62 : decode b_LP_shape 62 = .ok (.iconst (-1), 1) := by decide +kernel
theorem d_LP_shape_63 : decode b_LP_shape 63 = .ok (.ireturn, 1) := by decide +kernel
theorem d_LP_shape_64 : decode b_LP_shape 64 = .ok (.aload_n 0, 1) := by decide +kernel
theorem d_LP_shape_65 : decode b_LP_shape 65 = .ok (.getfield 33, 3) := by decide +kernel
theorem d_LP_shape_68 : decode b_LP_shape 68 = .ok (.lload_n 1, 1) := by decide +kernel
theorem d_LP_shape_69 : decode b_LP_shape 69 = .ok (.iload_n 3, 1) := by decide +kernel
theorem d_LP_shape_70 : decode b_LP_shape 70 = .ok (.iload 4, 2) := by decide +kernel
theorem d_LP_shape_72 : decode b_LP_shape 72 = .ok (.iload 5, 2) := by decide +kernel
theorem d_LP_shape_74 : decode b_LP_shape 74 = .ok (.invokevirtual 60, 3) := by decide +kernel
theorem d_LP_shape_77 : decode b_LP_shape 77 = .ok (.ireturn, 1) := by decide +kernel
theorem d_LP_place_0 : decode b_LP_place 0 = .ok (.iload_n 2, 1) := by decide +kernel
theorem d_LP_place_1 : decode b_LP_place 1 = .ok (.iload_n 3, 1) := by decide +kernel
theorem d_LP_place_2 : decode b_LP_place 2 = .ok (.invokestatic 64, 3) := by decide +kernel
theorem d_LP_place_5 : decode b_LP_place 5 = .ok (.ifCond .eq 14, 3) := by decide +kernel
theorem d_LP_place_8 : decode b_LP_place 8 = .ok (.aload_n 0, 1) := by decide +kernel
theorem d_LP_place_9 : decode b_LP_place 9 = .ok (.getfield 33, 3) := by decide +kernel
theorem d_LP_place_12 : decode b_LP_place 12 = .ok (.iload_n 1, 1) := by decide +kernel
theorem d_LP_place_13 : decode b_LP_place 13 = .ok (.invokevirtual 47, 3) := by decide +kernel
theorem d_LP_place_16 : decode b_LP_place 16 = .ok (.ifCond .ne 5, 3) := by decide +kernel
theorem d_LP_place_19 : decode b_LP_place 19 = .ok (.iconst (-1), 1) := by decide +kernel
theorem d_LP_place_20 : decode b_LP_place 20 = .ok (.ireturn, 1) := by decide +kernel
theorem d_LP_place_21 : decode b_LP_place 21 = .ok (.aload_n 0, 1) := by decide +kernel
theorem d_LP_place_22 : decode b_LP_place 22 = .ok (.getfield 33, 3) := by decide +kernel
theorem d_LP_place_25 : decode b_LP_place 25 = .ok (.iload_n 1, 1) := by decide +kernel
theorem d_LP_place_26 : decode b_LP_place 26 = .ok (.bipush 16, 2) := by decide +kernel
theorem d_LP_place_28 : decode b_LP_place 28 = .ok (.iload_n 2, 1) := by decide +kernel
theorem d_LP_place_29 : decode b_LP_place 29 = .ok (.imul, 1) := by decide +kernel
theorem d_LP_place_30 : decode b_LP_place 30 = .ok (.iload_n 3, 1) := by decide +kernel
theorem d_LP_place_31 : decode b_LP_place 31 = .ok (.iadd, 1) := by decide +kernel
theorem d_LP_place_32 : decode b_LP_place 32 = .ok (.invokevirtual 68, 3) := by decide +kernel
theorem d_LP_place_35 : decode b_LP_place 35 = .ok (.ireturn, 1) := by decide +kernel
theorem d_LP_paint_0 : decode b_LP_paint 0 = .ok (.aload_n 0, 1) := by decide +kernel
theorem d_LP_paint_1 : decode b_LP_paint 1 = .ok (.getfield 33, 3) := by decide +kernel
theorem d_LP_paint_4 : decode b_LP_paint 4 = .ok (.iload_n 1, 1) := by decide +kernel
theorem d_LP_paint_5 : decode b_LP_paint 5 = .ok (.invokevirtual 72, 3) := by decide +kernel
theorem d_LP_paint_8 : decode b_LP_paint 8 = .ok (.astore 5, 2) := by decide +kernel
theorem d_LP_paint_10 : decode b_LP_paint 10 = .ok (.aload 5, 2) := by decide +kernel
theorem d_LP_paint_12 : decode b_LP_paint 12 = .ok (.ifnull 23, 3) := by decide +kernel
theorem d_LP_paint_15 : decode b_LP_paint 15 = .ok (.aload 5, 2) := by decide +kernel
theorem d_LP_paint_17 : decode b_LP_paint 17 = .ok (.iconst 0, 1) := by decide +kernel
theorem d_LP_paint_18 : decode b_LP_paint 18 = .ok (.iload_n 2, 1) := by decide +kernel
theorem d_LP_paint_19 : decode b_LP_paint 19 = .ok (.invokevirtual 76, 3) := by decide +kernel
theorem d_LP_paint_22 : decode b_LP_paint 22 = .ok (.ifCond .eq 13, 3) := by decide +kernel
theorem d_LP_paint_25 : decode b_LP_paint 25 = .ok (.lload_n 3, 1) := by decide +kernel
theorem d_LP_paint_26 : decode b_LP_paint 26 = .ok (.ldc2_w 81, 3) := by decide +kernel
theorem d_LP_paint_29 : decode b_LP_paint 29 = .ok (.land, 1) := by decide +kernel
theorem d_LP_paint_30 : decode b_LP_paint 30 = .ok (.lconst 0, 1) := by decide +kernel
theorem d_LP_paint_31 : decode b_LP_paint 31 = .ok (.lcmp, 1) := by decide +kernel
theorem d_LP_paint_32 : decode b_LP_paint 32 = .ok (.ifCond .eq 5, 3) := by decide +kernel
theorem d_LP_paint_35 : decode b_LP_paint 35 = .ok (.iconst 0, 1) := by decide +kernel
theorem d_LP_paint_36 : decode b_LP_paint 36 = .ok (.ireturn, 1) := by decide +kernel
theorem d_LP_paint_37 : decode b_LP_paint 37 = .ok (.aload 5, 2) := by decide +kernel
theorem d_LP_paint_39 : decode b_LP_paint 39 = .ok (.getfield 83, 3) := by decide +kernel
theorem d_LP_paint_42 : decode b_LP_paint 42 = .ok (.bipush 8, 2) := by decide +kernel
theorem d_LP_paint_44 : decode b_LP_paint 44 = .ok (.if_icmp .ge 22, 3) := by decide +kernel
theorem d_LP_paint_47 : decode b_LP_paint 47 = .ok (.lload_n 3, 1) := by decide +kernel
theorem d_LP_paint_48 : decode b_LP_paint 48 = .ok (.bipush 8, 2) := by decide +kernel
theorem d_LP_paint_50 : decode b_LP_paint 50 = .ok (.aload 5, 2) := by decide +kernel
theorem d_LP_paint_52 : decode b_LP_paint 52 = .ok (.getfield 83, 3) := by decide +kernel
theorem d_LP_paint_55 : decode b_LP_paint 55 = .ok (.imul, 1) := by decide +kernel
theorem d_LP_paint_56 : decode b_LP_paint 56 = .ok (.lushr, 1) := by decide +kernel
theorem d_LP_paint_57 : decode b_LP_paint 57 = .ok (.lconst 0, 1) := by decide +kernel
theorem d_LP_paint_58 : decode b_LP_paint 58 = .ok (.lcmp, 1) := by decide +kernel
theorem d_LP_paint_59 : decode b_LP_paint 59 = .ok (.ifCond .eq 7, 3) := by decide +kernel
theorem d_LP_paint_62 : decode b_LP_paint 62 = .ok (.iconst 1, 1) := by decide +kernel
theorem d_LP_paint_63 : decode b_LP_paint 63 = .ok (.goto 4, 3) := by decide +kernel
theorem d_LP_paint_66 : decode b_LP_paint 66 = .ok (.iconst 0, 1) := by decide +kernel
theorem d_LP_paint_67 : decode b_LP_paint 67 = .ok (.istore 6, 2) := by decide +kernel
theorem d_LP_paint_69 : decode b_LP_paint 69 = .ok (.iload 6, 2) := by decide +kernel
theorem d_LP_paint_71 : decode b_LP_paint 71 = .ok (.ifCond .eq 5, 3) := by decide +kernel
theorem d_LP_paint_74 : decode b_LP_paint 74 = .ok (.iconst 0, 1) := by decide +kernel
theorem d_LP_paint_75 : decode b_LP_paint 75 = .ok (.ireturn, 1) := by decide +kernel
theorem d_LP_paint_76 : decode b_LP_paint 76 = .ok (.aload 5, 2) := by decide +kernel
theorem d_LP_paint_78 : decode b_LP_paint 78 = .ok (.iload_n 2, 1) := by decide +kernel
theorem d_LP_paint_79 : decode b_LP_paint 79 = .ok (.lload_n 3, 1) := by decide +kernel
theorem d_LP_paint_80 : decode b_LP_paint 80 = .ok (.invokevirtual 87, 3) := by decide +kernel
theorem d_LP_paint_83 : decode b_LP_paint 83 = .ok (.iconst 1, 1) := by decide +kernel
theorem d_LP_paint_84 : decode b_LP_paint 84 = .ok (.ireturn, 1) := by decide +kernel
theorem d_LP_clear_0 : decode b_LP_clear 0 = .ok (.aload_n 0, 1) := by decide +kernel
theorem d_LP_clear_1 : decode b_LP_clear 1 = .ok (.getfield 33, 3) := by decide +kernel
theorem d_LP_clear_4 : decode b_LP_clear 4 = .ok (.invokevirtual 91, 3) := by decide +kernel
theorem d_LP_clear_7 : decode b_LP_clear 7 = .ok (.return_, 1) := by decide +kernel
theorem d_LP_encode_0 : decode b_LP_encode 0 = .ok (.iload_n 1, 1) := by decide +kernel
theorem d_LP_encode_1 : decode b_LP_encode 1 = .ok (.ifCond .lt 9, 3) := by decide +kernel
theorem d_LP_encode_4 : decode b_LP_encode 4 = .ok (.iload_n 1, 1) := by decide +kernel
theorem d_LP_encode_5 : decode b_LP_encode 5 = .ok (.bipush 10, 2) := by decide +kernel
theorem d_LP_encode_7 : decode b_LP_encode 7 = .ok (.if_icmp .le 5, 3) := by decide +kernel
theorem d_LP_encode_10 : decode b_LP_encode 10 = .ok (.iconst (-1), 1) := by decide +kernel
theorem d_LP_encode_11 : decode b_LP_encode 11 = .ok (.ireturn, 1) := by decide +kernel
theorem d_LP_encode_12 : decode b_LP_encode 12 = .ok (.aload_n 0, 1) := by decide +kernel
theorem d_LP_encode_13 : decode b_LP_encode 13 = .ok (.getfield 19, 3) := by decide +kernel
theorem d_LP_encode_16 : decode b_LP_encode 16 = .ok (.aload_n 0, 1) := by decide +kernel
theorem d_LP_encode_17 : decode b_LP_encode 17 = .ok (.getfield 33, 3) := by decide +kernel
theorem d_LP_encode_20 : decode b_LP_encode 20 = .ok (.iload_n 1, 1) := by decide +kernel
theorem d_LP_encode_21 : decode b_LP_encode 21 = .ok (.aload_n 0, 1) := by decide +kernel
theorem d_LP_encode_22 : decode b_LP_encode 22 = .ok (.getfield 12, 3) := by decide +kernel
theorem d_LP_encode_25 : decode b_LP_encode 25 = .ok (.invokevirtual 94, 3) := by decide +kernel
theorem d_LP_encode_28 : decode b_LP_encode 28 = .ok (.aload_n 0, 1) := by decide +kernel
theorem d_LP_encode_29 : decode b_LP_encode 29 = .ok (.getfield 12, 3) := by decide +kernel
theorem d_LP_encode_32 : decode b_LP_encode 32 = .ok (.getfield 98, 3) := by decide +kernel
theorem d_LP_encode_35 : decode b_LP_encode 35 = .ok (.ireturn, 1) := by decide +kernel
theorem d_LP_length_0 : decode b_LP_length 0 = .ok (.aload_n 0, 1) := by decide +kernel
theorem d_LP_length_1 : decode b_LP_length 1 = .ok (.getfield 12, 3) := by decide +kernel
theorem d_LP_length_4 : decode b_LP_length 4 = .ok (.getfield 98, 3) := by decide +kernel
theorem d_LP_length_7 : decode b_LP_length 7 = .ok (.ireturn, 1) := by decide +kernel
theorem d_LP_octet_0 : decode b_LP_octet 0 = .ok (.aload_n 0, 1) := by decide +kernel
theorem d_LP_octet_1 : decode b_LP_octet 1 = .ok (.getfield 12, 3) := by decide +kernel
theorem d_LP_octet_4 : decode b_LP_octet 4 = .ok (.iload_n 1, 1) := by decide +kernel
theorem d_LP_octet_5 : decode b_LP_octet 5 = .ok (.invokevirtual 101, 3) := by decide +kernel
theorem d_LP_octet_8 : decode b_LP_octet 8 = .ok (.ireturn, 1) := by decide +kernel
theorem d_LP_alter_0 : decode b_LP_alter 0 = .ok (.iload_n 1, 1) := by decide +kernel
theorem d_LP_alter_1 : decode b_LP_alter 1 = .ok (.ifCond .lt 32, 3) := by decide +kernel
theorem d_LP_alter_4 : decode b_LP_alter 4 = .ok (.iload_n 1, 1) := by decide +kernel
theorem d_LP_alter_5 : decode b_LP_alter 5 = .ok (.aload_n 0, 1) := by decide +kernel
theorem d_LP_alter_6 : decode b_LP_alter 6 = .ok (.getfield 12, 3) := by decide +kernel
theorem d_LP_alter_9 : decode b_LP_alter 9 = .ok (.getfield 98, 3) := by decide +kernel
theorem d_LP_alter_12 : decode b_LP_alter 12 = .ok (.if_icmp .gt 21, 3) := by decide +kernel
theorem d_LP_alter_15 : decode b_LP_alter 15 = .ok (.iload_n 1, 1) := by decide +kernel
theorem d_LP_alter_16 : decode b_LP_alter 16 = .ok (.sipush 1200, 3) := by decide +kernel
theorem d_LP_alter_19 : decode b_LP_alter 19 = .ok (.if_icmp .ge 14, 3) := by decide +kernel
theorem d_LP_alter_22 : decode b_LP_alter 22 = .ok (.iload_n 2, 1) := by decide +kernel
theorem d_LP_alter_23 : decode b_LP_alter 23 = .ok (.ifCond .lt 10, 3) := by decide +kernel
theorem d_LP_alter_26 : decode b_LP_alter 26 = .ok (.iload_n 2, 1) := by decide +kernel
theorem d_LP_alter_27 : decode b_LP_alter 27 = .ok (.sipush 255, 3) := by decide +kernel
theorem d_LP_alter_30 : decode b_LP_alter 30 = .ok (.if_icmp .le 5, 3) := by decide +kernel
theorem d_LP_alter_33 : decode b_LP_alter 33 = .ok (.iconst 0, 1) := by decide +kernel
theorem d_LP_alter_34 : decode b_LP_alter 34 = .ok (.ireturn, 1) := by decide +kernel
theorem d_LP_alter_35 : decode b_LP_alter 35 = .ok (.aload_n 0, 1) := by decide +kernel
theorem d_LP_alter_36 : decode b_LP_alter 36 = .ok (.getfield 12, 3) := by decide +kernel
theorem d_LP_alter_39 : decode b_LP_alter 39 = .ok (.iload_n 1, 1) := by decide +kernel
theorem d_LP_alter_40 : decode b_LP_alter 40 = .ok (.iload_n 2, 1) := by decide +kernel
theorem d_LP_alter_41 : decode b_LP_alter 41 = .ok (.invokevirtual 105, 3) := by decide +kernel
theorem d_LP_alter_44 : decode b_LP_alter 44 = .ok (.iconst 1, 1) := by decide +kernel
theorem d_LP_alter_45 : decode b_LP_alter 45 = .ok (.ireturn, 1) := by decide +kernel
theorem d_LP_cut_0 : decode b_LP_cut 0 = .ok (.iload_n 1, 1) := by decide +kernel
theorem d_LP_cut_1 : decode b_LP_cut 1 = .ok (.ifCond .lt 14, 3) := by decide +kernel
theorem d_LP_cut_4 : decode b_LP_cut 4 = .ok (.iload_n 1, 1) := by decide +kernel
theorem d_LP_cut_5 : decode b_LP_cut 5 = .ok (.aload_n 0, 1) := by decide +kernel
theorem d_LP_cut_6 : decode b_LP_cut 6 = .ok (.getfield 12, 3) := by decide +kernel
theorem d_LP_cut_9 : decode b_LP_cut 9 = .ok (.getfield 98, 3) := by decide +kernel
theorem d_LP_cut_12 : decode b_LP_cut 12 = .ok (.if_icmp .le 5, 3) := by decide +kernel
theorem d_LP_cut_15 : decode b_LP_cut 15 = .ok (.iconst 0, 1) := by decide +kernel
theorem d_LP_cut_16 : decode b_LP_cut 16 = .ok (.ireturn, 1) := by decide +kernel
theorem d_LP_cut_17 : decode b_LP_cut 17 = .ok (.aload_n 0, 1) := by decide +kernel
theorem d_LP_cut_18 : decode b_LP_cut 18 = .ok (.getfield 12, 3) := by decide +kernel
theorem d_LP_cut_21 : decode b_LP_cut 21 = .ok (.iload_n 1, 1) := by decide +kernel
theorem d_LP_cut_22 : decode b_LP_cut 22 = .ok (.invokevirtual 109, 3) := by decide +kernel
theorem d_LP_cut_25 : decode b_LP_cut 25 = .ok (.iconst 1, 1) := by decide +kernel
theorem d_LP_cut_26 : decode b_LP_cut 26 = .ok (.ireturn, 1) := by decide +kernel
theorem d_LP_decode_0 : decode b_LP_decode 0 = .ok (.aload_n 0, 1) := by decide +kernel
theorem d_LP_decode_1 : decode b_LP_decode 1 = .ok (.getfield 26, 3) := by decide +kernel
theorem d_LP_decode_4 : decode b_LP_decode 4 = .ok (.aload_n 0, 1) := by decide +kernel
theorem d_LP_decode_5 : decode b_LP_decode 5 = .ok (.getfield 12, 3) := by decide +kernel
theorem d_LP_decode_8 : decode b_LP_decode 8 = .ok (.aload_n 0, 1) := by decide +kernel
theorem d_LP_decode_9 : decode b_LP_decode 9 = .ok (.getfield 44, 3) := by decide +kernel
theorem d_LP_decode_12 : decode b_LP_decode 12 = .ok (.invokevirtual 113, 3) := by decide +kernel
theorem d_LP_decode_15 : decode b_LP_decode 15 = .ok (.istore_n 1, 1) := by decide +kernel
theorem d_LP_decode_16 : decode b_LP_decode 16 = .ok (.iload_n 1, 1) := by decide +kernel
theorem d_LP_decode_17 : decode b_LP_decode 17 = .ok (.ifCond .ne 26, 3) := by decide +kernel
theorem d_LP_decode_20 : decode b_LP_decode 20 = .ok (.aload_n 0, 1) := by decide +kernel
theorem d_LP_decode_21 : decode b_LP_decode 21 = .ok (.getfield 41, 3) := by decide +kernel
theorem d_LP_decode_24 : decode b_LP_decode 24 = .ok (.astore_n 2, 1) := by decide +kernel
theorem d_LP_decode_25 : decode b_LP_decode 25 = .ok (.aload_n 0, 1) := by decide +kernel
theorem d_LP_decode_26 : decode b_LP_decode 26 = .ok (.aload_n 0, 1) := by decide +kernel
theorem d_LP_decode_27 : decode b_LP_decode 27 = .ok (.getfield 44, 3) := by decide +kernel
theorem d_LP_decode_30 : decode b_LP_decode 30 = .ok (.putfield 41, 3) := by decide +kernel
theorem d_LP_decode_33 : decode b_LP_decode 33 = .ok (.aload_n 0, 1) := by decide +kernel
theorem d_LP_decode_34 : decode b_LP_decode 34 = .ok (.aload_n 2, 1) := by decide +kernel
theorem d_LP_decode_35 : decode b_LP_decode 35 = .ok (.putfield 44, 3) := by decide +kernel
theorem d_LP_decode_38 : decode b_LP_decode 38 = .ok (.aload_n 0, 1) := by decide +kernel
theorem d_LP_decode_39 : decode b_LP_decode 39 = .ok (.iconst 1, 1) := by decide +kernel
theorem d_LP_decode_40 : decode b_LP_decode 40 = .ok (.putfield 37, 3) := by decide +kernel
theorem d_LP_decode_43 : decode b_LP_decode 43 = .ok (.iload_n 1, 1) := by decide +kernel
theorem d_LP_decode_44 : decode b_LP_decode 44 = .ok (.ireturn, 1) := by decide +kernel
theorem d_LP_pixel_0 : decode b_LP_pixel 0 = .ok (.aload_n 0, 1) := by decide +kernel
theorem d_LP_pixel_1 : decode b_LP_pixel 1 = .ok (.getfield 37, 3) := by decide +kernel
theorem d_LP_pixel_4 : decode b_LP_pixel 4 = .ok (.ifCond .eq 11, 3) := by decide +kernel
theorem d_LP_pixel_7 : decode b_LP_pixel 7 = .ok (.iload_n 1, 1) := by decide +kernel
theorem d_LP_pixel_8 : decode b_LP_pixel 8 = .ok (.iload_n 2, 1) := by decide +kernel
theorem d_LP_pixel_9 : decode b_LP_pixel 9 = .ok (.invokestatic 64, 3) := by decide +kernel
theorem d_LP_pixel_12 : decode b_LP_pixel 12 = .ok (.ifCond .ne 5, 3) := by decide +kernel
theorem d_LP_pixel_15 : decode b_LP_pixel 15 = .ok (.iconst (-1), 1) := by decide +kernel
theorem d_LP_pixel_16 : decode b_LP_pixel 16 = .ok (.ireturn, 1) := by decide +kernel
theorem d_LP_pixel_17 : decode b_LP_pixel 17 = .ok (.aload_n 0, 1) := by decide +kernel
theorem d_LP_pixel_18 : decode b_LP_pixel 18 = .ok (.getfield 41, 3) := by decide +kernel
theorem d_LP_pixel_21 : decode b_LP_pixel 21 = .ok (.iload_n 1, 1) := by decide +kernel
theorem d_LP_pixel_22 : decode b_LP_pixel 22 = .ok (.iload_n 2, 1) := by decide +kernel
theorem d_LP_pixel_23 : decode b_LP_pixel 23 = .ok (.invokevirtual 117, 3) := by decide +kernel
theorem d_LP_pixel_26 : decode b_LP_pixel 26 = .ok (.ifCond .eq 20, 3) := by decide +kernel
theorem d_LP_pixel_29 : decode b_LP_pixel 29 = .ok (.aload_n 0, 1) := by decide +kernel
theorem d_LP_pixel_30 : decode b_LP_pixel 30 = .ok (.getfield 41, 3) := by decide +kernel
theorem d_LP_pixel_33 : decode b_LP_pixel 33 = .ok (.getfield 120, 3) := by decide +kernel
theorem d_LP_pixel_36 : decode b_LP_pixel 36 = .ok (.iload_n 1, 1) := by decide +kernel
theorem d_LP_pixel_37 : decode b_LP_pixel 37 = .ok (.iconst 4, 1) := by decide +kernel
theorem d_LP_pixel_38 : decode b_LP_pixel 38 = .ok (.idiv, 1) := by decide +kernel
theorem d_LP_pixel_39 : decode b_LP_pixel 39 = .ok (.iload_n 2, 1) := by decide +kernel
theorem d_LP_pixel_40 : decode b_LP_pixel 40 = .ok (.iconst 4, 1) := by decide +kernel
theorem d_LP_pixel_41 : decode b_LP_pixel 41 = .ok (.idiv, 1) := by decide +kernel
theorem d_LP_pixel_42 : decode b_LP_pixel 42 = .ok (.invokevirtual 124, 3) := by decide +kernel
theorem d_LP_pixel_45 : decode b_LP_pixel 45 = .ok (.ireturn, 1) := by decide +kernel
theorem d_LP_pixel_46 : decode b_LP_pixel 46 = .ok (.aload_n 0, 1) := by decide +kernel
theorem d_LP_pixel_47 : decode b_LP_pixel 47 = .ok (.getfield 41, 3) := by decide +kernel
theorem d_LP_pixel_50 : decode b_LP_pixel 50 = .ok (.getfield 127, 3) := by decide +kernel
theorem d_LP_pixel_53 : decode b_LP_pixel 53 = .ok (.iload_n 1, 1) := by decide +kernel
theorem d_LP_pixel_54 : decode b_LP_pixel 54 = .ok (.iconst 2, 1) := by decide +kernel
theorem d_LP_pixel_55 : decode b_LP_pixel 55 = .ok (.idiv, 1) := by decide +kernel
theorem d_LP_pixel_56 : decode b_LP_pixel 56 = .ok (.iload_n 2, 1) := by decide +kernel
theorem d_LP_pixel_57 : decode b_LP_pixel 57 = .ok (.iconst 2, 1) := by decide +kernel
theorem d_LP_pixel_58 : decode b_LP_pixel 58 = .ok (.idiv, 1) := by decide +kernel
theorem d_LP_pixel_59 : decode b_LP_pixel 59 = .ok (.invokevirtual 124, 3) := by decide +kernel
theorem d_LP_pixel_62 : decode b_LP_pixel 62 = .ok (.ireturn, 1) := by decide +kernel
theorem d_LP_inked_0 : decode b_LP_inked 0 = .ok (.aload_n 0, 1) := by decide +kernel
theorem d_LP_inked_1 : decode b_LP_inked 1 = .ok (.getfield 37, 3) := by decide +kernel
theorem d_LP_inked_4 : decode b_LP_inked 4 = .ok (.ifCond .eq 27, 3) := by decide +kernel
theorem d_LP_inked_7 : decode b_LP_inked 7 = .ok (.iload_n 1, 1) := by decide +kernel
theorem d_LP_inked_8 : decode b_LP_inked 8 = .ok (.iload_n 2, 1) := by decide +kernel
theorem d_LP_inked_9 : decode b_LP_inked 9 = .ok (.invokestatic 64, 3) := by decide +kernel
theorem d_LP_inked_12 : decode b_LP_inked 12 = .ok (.ifCond .eq 19, 3) := by decide +kernel
theorem d_LP_inked_15 : decode b_LP_inked 15 = .ok (.aload_n 0, 1) := by decide +kernel
theorem d_LP_inked_16 : decode b_LP_inked 16 = .ok (.getfield 41, 3) := by decide +kernel
theorem d_LP_inked_19 : decode b_LP_inked 19 = .ok (.iload_n 1, 1) := by decide +kernel
theorem d_LP_inked_20 : decode b_LP_inked 20 = .ok (.iload_n 2, 1) := by decide +kernel
theorem d_LP_inked_21 : decode b_LP_inked 21 = .ok (.invokevirtual 117, 3) := by decide +kernel
theorem d_LP_inked_24 : decode b_LP_inked 24 = .ok (.ifCond .eq 7, 3) := by decide +kernel
theorem d_LP_inked_27 : decode b_LP_inked 27 = .ok (.iconst 1, 1) := by decide +kernel
theorem d_LP_inked_28 : decode b_LP_inked 28 = .ok (.goto 4, 3) := by decide +kernel
theorem d_LP_inked_31 : decode b_LP_inked 31 = .ok (.iconst 0, 1) := by decide +kernel
theorem d_LP_inked_32 : decode b_LP_inked 32 = .ok (.ireturn, 1) := by decide +kernel
theorem d_LP_cell_0 : decode b_LP_cell 0 = .ok (.aload_n 0, 1) := by decide +kernel
theorem d_LP_cell_1 : decode b_LP_cell 1 = .ok (.iload_n 1, 1) := by decide +kernel
theorem d_LP_cell_2 : decode b_LP_cell 2 = .ok (.invokevirtual 130, 3) := by decide +kernel
theorem d_LP_cell_5 : decode b_LP_cell 5 = .ok (.astore 4, 2) := by decide +kernel
theorem d_LP_cell_7 : decode b_LP_cell 7 = .ok (.aload 4, 2) := by decide +kernel
theorem d_LP_cell_9 : decode b_LP_cell 9 = .ok (.ifnonnull 7, 3) := by decide +kernel
theorem d_LP_cell_12 : decode b_LP_cell 12 = .ok (.iconst (-1), 1) := by decide +kernel
theorem d_LP_cell_13 : decode b_LP_cell 13 = .ok (.goto 10, 3) := by decide +kernel
theorem d_LP_cell_16 : decode b_LP_cell 16 = .ok (.aload 4, 2) := by decide +kernel
theorem d_LP_cell_18 : decode b_LP_cell 18 = .ok (.iload_n 2, 1) := by decide +kernel
theorem d_LP_cell_19 : decode b_LP_cell 19 = .ok (.iload_n 3, 1) := by decide +kernel
theorem d_LP_cell_20 : decode b_LP_cell 20 = .ok (.invokevirtual 124, 3) := by decide +kernel
theorem d_LP_cell_23 : decode b_LP_cell 23 = .ok (.ireturn, 1) := by decide +kernel
theorem d_LP_coefficient_0 : decode b_LP_coefficient 0 = .ok (.aload_n 0, 1) := by decide +kernel
theorem d_LP_coefficient_1 : decode b_LP_coefficient 1 = .ok (.iload_n 1, 1) := by decide +kernel
theorem d_LP_coefficient_2 : decode b_LP_coefficient 2 = .ok (.invokevirtual 130, 3) := by decide +kernel
theorem d_LP_coefficient_5 : decode b_LP_coefficient 5 = .ok (.astore 4, 2) := by decide +kernel
theorem d_LP_coefficient_7 : decode b_LP_coefficient 7 = .ok (.aload 4, 2) := by decide +kernel
theorem d_LP_coefficient_9 : decode b_LP_coefficient 9 = .ok (.ifnonnull 7, 3) := by decide +kernel
theorem d_LP_coefficient_12 : decode b_LP_coefficient 12 = .ok (.iconst 0, 1) := by decide +kernel
theorem d_LP_coefficient_13 : decode b_LP_coefficient 13 = .ok (.goto 10, 3) := by decide +kernel
theorem d_LP_coefficient_16 : decode b_LP_coefficient 16 = .ok (.aload 4, 2) := by decide +kernel
theorem d_LP_coefficient_18 : decode b_LP_coefficient 18 = .ok (.iload_n 2, 1) := by decide +kernel
theorem d_LP_coefficient_19 : decode b_LP_coefficient 19 = .ok (.iload_n 3, 1) := by decide +kernel
theorem d_LP_coefficient_20 : decode b_LP_coefficient 20 = .ok (.invokevirtual 133, 3) := by decide +kernel
theorem d_LP_coefficient_23 : decode b_LP_coefficient 23 = .ok (.ireturn, 1) := by decide +kernel
theorem d_LP_shapes_0 : decode b_LP_shapes 0 = .ok (.aload_n 0, 1) := by decide +kernel
theorem d_LP_shapes_1 : decode b_LP_shapes 1 = .ok (.getfield 37, 3) := by decide +kernel
theorem d_LP_shapes_4 : decode b_LP_shapes 4 = .ok (.ifCond .eq 13, 3) := by decide +kernel
theorem d_LP_shapes_7 : decode b_LP_shapes 7 = .ok (.aload_n 0, 1) := by decide +kernel
theorem d_LP_shapes_8 : decode b_LP_shapes 8 = .ok (.getfield 41, 3) := by decide +kernel
theorem d_LP_shapes_11 : decode b_LP_shapes 11 = .ok (.getfield 136, 3) := by decide +kernel
theorem d_LP_shapes_14 : decode b_LP_shapes 14 = .ok (.goto 4, 3) := by decide +kernel
theorem d_LP_shapes_17 : decode b_LP_shapes 17 = .ok (.iconst (-1), 1) := by decide +kernel
theorem d_LP_shapes_18 : decode b_LP_shapes 18 = .ok (.ireturn, 1) := by decide +kernel
theorem d_LP_glyph_0 : decode b_LP_glyph 0 = .ok (.aload_n 0, 1) := by decide +kernel
theorem d_LP_glyph_1 : decode b_LP_glyph 1 = .ok (.getfield 37, 3) := by decide +kernel
theorem d_LP_glyph_4 : decode b_LP_glyph 4 = .ok (.ifCond .eq 29, 3) := by decide +kernel
theorem d_LP_glyph_7 : decode b_LP_glyph 7 = .ok (.aload_n 0, 1) := by decide +kernel
theorem d_LP_glyph_8 : decode b_LP_glyph 8 = .ok (.getfield 41, 3) := by decide +kernel
theorem d_LP_glyph_11 : decode b_LP_glyph 11 = .ok (.iload_n 1, 1) := by decide +kernel
theorem d_LP_glyph_12 : decode b_LP_glyph 12 = .ok (.invokevirtual 47, 3) := by decide +kernel
theorem d_LP_glyph_15 : decode b_LP_glyph 15 = .ok (.ifCond .eq 18, 3) := by decide +kernel
theorem d_LP_glyph_18 : decode b_LP_glyph 18 = .ok (.aload_n 0, 1) := by decide +kernel
theorem d_LP_glyph_19 : decode b_LP_glyph 19 = .ok (.getfield 41, 3) := by decide +kernel
theorem d_LP_glyph_22 : decode b_LP_glyph 22 = .ok (.getfield 139, 3) := by decide +kernel
theorem d_LP_glyph_25 : decode b_LP_glyph 25 = .ok (.iload_n 1, 1) := by decide +kernel
theorem d_LP_glyph_26 : decode b_LP_glyph 26 = .ok (.aaload, 1) := by decide +kernel
theorem d_LP_glyph_27 : decode b_LP_glyph 27 = .ok (.getfield 143, 3) := by decide +kernel
theorem d_LP_glyph_30 : decode b_LP_glyph 30 = .ok (.goto 4, 3) := by decide +kernel
theorem d_LP_glyph_33 : decode b_LP_glyph 33 = .ok (.lconst 0, 1) := by decide +kernel
theorem d_LP_glyph_34 : decode b_LP_glyph 34 = .ok (.lreturn, 1) := by decide +kernel
theorem d_LP_placings_0 : decode b_LP_placings 0 = .ok (.aload_n 0, 1) := by decide +kernel
theorem d_LP_placings_1 : decode b_LP_placings 1 = .ok (.getfield 37, 3) := by decide +kernel
theorem d_LP_placings_4 : decode b_LP_placings 4 = .ok (.ifCond .eq 13, 3) := by decide +kernel
theorem d_LP_placings_7 : decode b_LP_placings 7 = .ok (.aload_n 0, 1) := by decide +kernel
theorem d_LP_placings_8 : decode b_LP_placings 8 = .ok (.getfield 41, 3) := by decide +kernel
theorem d_LP_placings_11 : decode b_LP_placings 11 = .ok (.getfield 149, 3) := by decide +kernel
theorem d_LP_placings_14 : decode b_LP_placings 14 = .ok (.goto 4, 3) := by decide +kernel
theorem d_LP_placings_17 : decode b_LP_placings 17 = .ok (.iconst (-1), 1) := by decide +kernel
theorem d_LP_placings_18 : decode b_LP_placings 18 = .ok (.ireturn, 1) := by decide +kernel
theorem d_LP_pictureLayer_0 : decode b_LP_pictureLayer 0 = .ok (.aload_n 0, 1) := by decide +kernel
theorem d_LP_pictureLayer_1 : decode b_LP_pictureLayer 1 = .ok (.getfield 37, 3) := by decide +kernel
theorem d_LP_pictureLayer_4 : decode b_LP_pictureLayer 4 = .ok (.ifCond .eq 14, 3) := by decide +kernel
theorem d_LP_pictureLayer_7 : decode b_LP_pictureLayer 7 = .ok (.aload_n 0, 1) := by decide +kernel
theorem d_LP_pictureLayer_8 : decode b_LP_pictureLayer 8 = .ok (.getfield 41, 3) := by decide +kernel
theorem d_LP_pictureLayer_11 : decode b_LP_pictureLayer 11 = .ok (.iload_n 1, 1) := by decide +kernel
theorem d_LP_pictureLayer_12 : decode b_LP_pictureLayer 12 = .ok (.invokevirtual 72, 3) := by decide +kernel
theorem d_LP_pictureLayer_15 : decode b_LP_pictureLayer 15 = .ok (.goto 4, 3) := by decide +kernel
theorem d_LP_pictureLayer_18 : decode b_LP_pictureLayer 18 = .ok (.aconst_null, 1) := by decide +kernel
theorem d_LP_pictureLayer_19 : decode b_LP_pictureLayer 19 = .ok (.areturn, 1) := by decide +kernel
theorem d_LP_isOnPage_0 : decode b_LP_isOnPage 0 = .ok (.iload_n 0, 1) := by decide +kernel
theorem d_LP_isOnPage_1 : decode b_LP_isOnPage 1 = .ok (.ifCond .lt 23, 3) := by decide +kernel
theorem d_LP_isOnPage_4 : decode b_LP_isOnPage 4 = .ok (.iload_n 0, 1) := by decide +kernel
theorem d_LP_isOnPage_5 : decode b_LP_isOnPage 5 = .ok (.bipush 16, 2) := by decide +kernel
theorem d_LP_isOnPage_7 : decode b_LP_isOnPage 7 = .ok (.if_icmp .ge 17, 3) := by decide +kernel
theorem d_LP_isOnPage_10 : decode b_LP_isOnPage 10 = .ok (.iload_n 1, 1) := by decide +kernel
theorem d_LP_isOnPage_11 : decode b_LP_isOnPage 11 = .ok (.ifCond .lt 13, 3) := by decide +kernel
theorem d_LP_isOnPage_14 : decode b_LP_isOnPage 14 = .ok (.iload_n 1, 1) := by decide +kernel
theorem d_LP_isOnPage_15 : decode b_LP_isOnPage 15 = .ok (.bipush 16, 2) := by decide +kernel
theorem d_LP_isOnPage_17 : decode b_LP_isOnPage 17 = .ok (.if_icmp .ge 7, 3) := by decide +kernel
theorem d_LP_isOnPage_20 : decode b_LP_isOnPage 20 = .ok (.iconst 1, 1) := by decide +kernel
theorem d_LP_isOnPage_21 : decode b_LP_isOnPage 21 = .ok (.goto 4, 3) := by decide +kernel
theorem d_LP_isOnPage_24 : decode b_LP_isOnPage 24 = .ok (.iconst 0, 1) := by decide +kernel
theorem d_LP_isOnPage_25 : decode b_LP_isOnPage 25 = .ok (.ireturn, 1) := by decide +kernel
theorem d_LP_isShapeSide_0 : decode b_LP_isShapeSide 0 = .ok (.iload_n 0, 1) := by decide +kernel
theorem d_LP_isShapeSide_1 : decode b_LP_isShapeSide 1 = .ok (.iconst 1, 1) := by decide +kernel
theorem d_LP_isShapeSide_2 : decode b_LP_isShapeSide 2 = .ok (.if_icmp .lt 13, 3) := by decide +kernel
theorem d_LP_isShapeSide_5 : decode b_LP_isShapeSide 5 = .ok (.iload_n 0, 1) := by decide +kernel
theorem d_LP_isShapeSide_6 : decode b_LP_isShapeSide 6 = .ok (.bipush 8, 2) := by decide +kernel
theorem d_LP_isShapeSide_8 : decode b_LP_isShapeSide 8 = .ok (.if_icmp .gt 7, 3) := by decide +kernel
theorem d_LP_isShapeSide_11 : decode b_LP_isShapeSide 11 = .ok (.iconst 1, 1) := by decide +kernel
theorem d_LP_isShapeSide_12 : decode b_LP_isShapeSide 12 = .ok (.goto 4, 3) := by decide +kernel
theorem d_LP_isShapeSide_15 : decode b_LP_isShapeSide 15 = .ok (.iconst 0, 1) := by decide +kernel
theorem d_LP_isShapeSide_16 : decode b_LP_isShapeSide 16 = .ok (.ireturn, 1) := by decide +kernel
theorem d_LP_shapeMask_0 : decode b_LP_shapeMask 0 = .ok (.lconst 1, 1) := by decide +kernel
theorem d_LP_shapeMask_1 : decode b_LP_shapeMask 1 = .ok (.iload_n 0, 1) := by decide +kernel
theorem d_LP_shapeMask_2 : decode b_LP_shapeMask 2 = .ok (.lshl, 1) := by decide +kernel
theorem d_LP_shapeMask_3 : decode b_LP_shapeMask 3 = .ok (.lconst 1, 1) := by decide +kernel
theorem d_LP_shapeMask_4 : decode b_LP_shapeMask 4 = .ok (.lsub, 1) := by decide +kernel
theorem d_LP_shapeMask_5 : decode b_LP_shapeMask 5 = .ok (.lstore_n 2, 1) := by decide +kernel
theorem d_LP_shapeMask_6 : decode b_LP_shapeMask 6 = .ok (.lconst 0, 1) := by decide +kernel
theorem d_LP_shapeMask_7 : decode b_LP_shapeMask 7 = .ok (.lstore 4, 2) := by decide +kernel
theorem d_LP_shapeMask_9 : decode b_LP_shapeMask 9 = .ok (.iconst 0, 1) := by decide +kernel
theorem d_LP_shapeMask_10 : decode b_LP_shapeMask 10 = .ok (.istore 6, 2) := by decide +kernel
theorem d_LP_shapeMask_12 : decode b_LP_shapeMask 12 = .ok (.iload 6, 2) := by decide +kernel
theorem d_LP_shapeMask_14 : decode b_LP_shapeMask 14 = .ok (.iload_n 1, 1) := by decide +kernel
theorem d_LP_shapeMask_15 : decode b_LP_shapeMask 15 = .ok (.if_icmp .ge 21, 3) := by decide +kernel
theorem d_LP_shapeMask_18 : decode b_LP_shapeMask 18 = .ok (.lload 4, 2) := by decide +kernel
theorem d_LP_shapeMask_20 : decode b_LP_shapeMask 20 = .ok (.lload_n 2, 1) := by decide +kernel
theorem d_LP_shapeMask_21 : decode b_LP_shapeMask 21 = .ok (.bipush 8, 2) := by decide +kernel
theorem d_LP_shapeMask_23 : decode b_LP_shapeMask 23 = .ok (.iload 6, 2) := by decide +kernel
theorem d_LP_shapeMask_25 : decode b_LP_shapeMask 25 = .ok (.imul, 1) := by decide +kernel
theorem d_LP_shapeMask_26 : decode b_LP_shapeMask 26 = .ok (.lshl, 1) := by decide +kernel
theorem d_LP_shapeMask_27 : decode b_LP_shapeMask 27 = .ok (.lor, 1) := by decide +kernel
theorem d_LP_shapeMask_28 : decode b_LP_shapeMask 28 = .ok (.lstore 4, 2) := by decide +kernel
theorem d_LP_shapeMask_30 : decode b_LP_shapeMask 30 = .ok (.iinc 6 1, 3) := by decide +kernel
theorem d_LP_shapeMask_33 : decode b_LP_shapeMask 33 = .ok (.goto (-21), 3) := by decide +kernel
theorem d_LP_shapeMask_36 : decode b_LP_shapeMask 36 = .ok (.lload 4, 2) := by decide +kernel
theorem d_LP_shapeMask_38 : decode b_LP_shapeMask 38 = .ok (.lreturn, 1) := by decide +kernel
theorem d_Md_init_0 : decode b_Md_init 0 = .ok (.aload_n 0, 1) := by decide +kernel
theorem d_Md_init_1 : decode b_Md_init 1 = .ok (.invokespecial 1, 3) := by decide +kernel
theorem d_Md_init_4 : decode b_Md_init 4 = .ok (.aload_n 0, 1) := by decide +kernel
theorem d_Md_init_5 : decode b_Md_init 5 = .ok (.bipush 8, 2) := by decide +kernel
theorem d_Md_init_7 : decode b_Md_init 7 = .ok (.newarray .long, 2) := by decide +kernel
theorem d_Md_init_9 : decode b_Md_init 9 = .ok (.putfield 7, 3) := by decide +kernel
theorem d_Md_init_12 : decode b_Md_init 12 = .ok (.aload_n 0, 1) := by decide +kernel
theorem d_Md_init_13 : decode b_Md_init 13 = .ok (.bipush 8, 2) := by decide +kernel
theorem d_Md_init_15 : decode b_Md_init 15 = .ok (.newarray .int, 2) := by decide +kernel
theorem d_Md_init_17 : decode b_Md_init 17 = .ok (.putfield 13, 3) := by decide +kernel
theorem d_Md_init_20 : decode b_Md_init 20 = .ok (.aload_n 0, 1) := by decide +kernel
theorem d_Md_init_21 : decode b_Md_init 21 = .ok (.bipush 8, 2) := by decide +kernel
theorem d_Md_init_23 : decode b_Md_init 23 = .ok (.newarray .int, 2) := by decide +kernel
theorem d_Md_init_25 : decode b_Md_init 25 = .ok (.putfield 17, 3) := by decide +kernel
theorem d_Md_init_28 : decode b_Md_init 28 = .ok (.aload_n 0, 1) := by decide +kernel
theorem d_Md_init_29 : decode b_Md_init 29 = .ok (.bipush 8, 2) := by decide +kernel
theorem d_Md_init_31 : decode b_Md_init 31 = .ok (.newarray .int, 2) := by decide +kernel
theorem d_Md_init_33 : decode b_Md_init 33 = .ok (.putfield 20, 3) := by decide +kernel
theorem d_Md_init_36 : decode b_Md_init 36 = .ok (.aload_n 0, 1) := by decide +kernel
theorem d_Md_init_37 : decode b_Md_init 37 = .ok (.bipush 20, 2) := by decide +kernel
theorem d_Md_init_39 : decode b_Md_init 39 = .ok (.newarray .int, 2) := by decide +kernel
theorem d_Md_init_41 : decode b_Md_init 41 = .ok (.putfield 23, 3) := by decide +kernel
theorem d_Md_init_44 : decode b_Md_init 44 = .ok (.aload_n 0, 1) := by decide +kernel
theorem d_Md_init_45 : decode b_Md_init 45 = .ok (.bipush 20, 2) := by decide +kernel
theorem d_Md_init_47 : decode b_Md_init 47 = .ok (.newarray .int, 2) := by decide +kernel
theorem d_Md_init_49 : decode b_Md_init 49 = .ok (.putfield 26, 3) := by decide +kernel
theorem d_Md_init_52 : decode b_Md_init 52 = .ok (.aload_n 0, 1) := by decide +kernel
theorem d_Md_init_53 : decode b_Md_init 53 = .ok (.sipush 128, 3) := by decide +kernel
theorem d_Md_init_56 : decode b_Md_init 56 = .ok (.newarray .int, 2) := by decide +kernel
theorem d_Md_init_58 : decode b_Md_init 58 = .ok (.putfield 29, 3) := by decide +kernel
theorem d_Md_init_61 : decode b_Md_init 61 = .ok (.aload_n 0, 1) := by decide +kernel
theorem d_Md_init_62 : decode b_Md_init 62 = .ok (.sipush 1200, 3) := by decide +kernel
theorem d_Md_init_65 : decode b_Md_init 65 = .ok (.newarray .int, 2) := by decide +kernel
theorem d_Md_init_67 : decode b_Md_init 67 = .ok (.putfield 32, 3) := by decide +kernel
theorem d_Md_init_70 : decode b_Md_init 70 = .ok (.aload_n 0, 1) := by decide +kernel
theorem d_Md_init_71 : decode b_Md_init 71 = .ok (.bipush 8, 2) := by decide +kernel
theorem d_Md_init_73 : decode b_Md_init 73 = .ok (.newarray .long, 2) := by decide +kernel
theorem d_Md_init_75 : decode b_Md_init 75 = .ok (.putfield 35, 3) := by decide +kernel
theorem d_Md_init_78 : decode b_Md_init 78 = .ok (.aload_n 0, 1) := by decide +kernel
theorem d_Md_init_79 : decode b_Md_init 79 = .ok (.bipush 20, 2) := by decide +kernel
theorem d_Md_init_81 : decode b_Md_init 81 = .ok (.newarray .int, 2) := by decide +kernel
theorem d_Md_init_83 : decode b_Md_init 83 = .ok (.putfield 38, 3) := by decide +kernel
theorem d_Md_init_86 : decode b_Md_init 86 = .ok (.aload_n 0, 1) := by decide +kernel
theorem d_Md_init_87 : decode b_Md_init 87 = .ok (.bipush 20, 2) := by decide +kernel
theorem d_Md_init_89 : decode b_Md_init 89 = .ok (.newarray .int, 2) := by decide +kernel
theorem d_Md_init_91 : decode b_Md_init 91 = .ok (.putfield 41, 3) := by decide +kernel
theorem d_Md_init_94 : decode b_Md_init 94 = .ok (.aload_n 0, 1) := by decide +kernel
theorem d_Md_init_95 : decode b_Md_init 95 = .ok (.sipush 128, 3) := by decide +kernel
theorem d_Md_init_98 : decode b_Md_init 98 = .ok (.newarray .int, 2) := by decide +kernel
theorem d_Md_init_100 : decode b_Md_init 100 = .ok (.putfield 44, 3) := by decide +kernel
theorem d_Md_init_103 : decode b_Md_init 103 = .ok (.aload_n 0, 1) := by decide +kernel
theorem d_Md_init_104 : decode b_Md_init 104 = .ok (.sipush 128, 3) := by decide +kernel
theorem d_Md_init_107 : decode b_Md_init 107 = .ok (.newarray .int, 2) := by decide +kernel
theorem d_Md_init_109 : decode b_Md_init 109 = .ok (.putfield 47, 3) := by decide +kernel
theorem d_Md_init_112 : decode b_Md_init 112 = .ok (.aload_n 0, 1) := by decide +kernel
theorem d_Md_init_113 : decode b_Md_init 113 = .ok (.bipush 48, 2) := by decide +kernel
theorem d_Md_init_115 : decode b_Md_init 115 = .ok (.newarray .int, 2) := by decide +kernel
theorem d_Md_init_117 : decode b_Md_init 117 = .ok (.putfield 50, 3) := by decide +kernel
theorem d_Md_init_120 : decode b_Md_init 120 = .ok (.aload_n 0, 1) := by decide +kernel
theorem d_Md_init_121 : decode b_Md_init 121 = .ok (.bipush 48, 2) := by decide +kernel
theorem d_Md_init_123 : decode b_Md_init 123 = .ok (.newarray .int, 2) := by decide +kernel
theorem d_Md_init_125 : decode b_Md_init 125 = .ok (.putfield 53, 3) := by decide +kernel
theorem d_Md_init_128 : decode b_Md_init 128 = .ok (.aload_n 0, 1) := by decide +kernel
theorem d_Md_init_129 : decode b_Md_init 129 = .ok (.sipush 4400, 3) := by decide +kernel
theorem d_Md_init_132 : decode b_Md_init 132 = .ok (.newarray .int, 2) := by decide +kernel
theorem d_Md_init_134 : decode b_Md_init 134 = .ok (.putfield 56, 3) := by decide +kernel
theorem d_Md_init_137 : decode b_Md_init 137 = .ok (.aload_n 0, 1) := by decide +kernel
theorem d_Md_init_138 : decode b_Md_init 138 = .ok (.bipush 64, 2) := by decide +kernel
theorem d_Md_init_140 : decode b_Md_init 140 = .ok (.newarray .int, 2) := by decide +kernel
theorem d_Md_init_142 : decode b_Md_init 142 = .ok (.putfield 59, 3) := by decide +kernel
theorem d_Md_init_145 : decode b_Md_init 145 = .ok (.aload_n 0, 1) := by decide +kernel
theorem d_Md_init_146 : decode b_Md_init 146 = .ok (.bipush 8, 2) := by decide +kernel
theorem d_Md_init_148 : decode b_Md_init 148 = .ok (.newarray .int, 2) := by decide +kernel
theorem d_Md_init_150 : decode b_Md_init 150 = .ok (.putfield 62, 3) := by decide +kernel
theorem d_Md_init_153 : decode b_Md_init 153 = .ok (.aload_n 0, 1) := by decide +kernel
theorem d_Md_init_154 : decode b_Md_init 154 = .ok (.bipush 8, 2) := by decide +kernel
theorem d_Md_init_156 : decode b_Md_init 156 = .ok (.newarray .int, 2) := by decide +kernel
theorem d_Md_init_158 : decode b_Md_init 158 = .ok (.putfield 65, 3) := by decide +kernel
theorem d_Md_init_161 : decode b_Md_init 161 = .ok (.aload_n 0, 1) := by decide +kernel
theorem d_Md_init_162 : decode b_Md_init 162 = .ok (.bipush 64, 2) := by decide +kernel
theorem d_Md_init_164 : decode b_Md_init 164 = .ok (.newarray .int, 2) := by decide +kernel
theorem d_Md_init_166 : decode b_Md_init 166 = .ok (.putfield 68, 3) := by decide +kernel
theorem d_Md_init_169 : decode b_Md_init 169 = .ok (.aload_n 0, 1) := by decide +kernel
theorem d_Md_init_170 : decode b_Md_init 170 = .ok (.bipush 64, 2) := by decide +kernel
theorem d_Md_init_172 : decode b_Md_init 172 = .ok (.newarray .boolean, 2) := by decide +kernel
theorem d_Md_init_174 : decode b_Md_init 174 = .ok (.putfield 71, 3) := by decide +kernel
theorem d_Md_init_177 : decode b_Md_init 177 = .ok (.return_, 1) := by decide +kernel
theorem d_Md_outside_0 : decode b_Md_outside 0 = .ok (.iload_n 0, 1) := by decide +kernel
theorem d_Md_outside_1 : decode b_Md_outside 1 = .ok (.ifCond .lt 8, 3) := by decide +kernel
theorem d_Md_outside_4 : decode b_Md_outside 4 = .ok (.iload_n 0, 1) := by decide +kernel
theorem d_Md_outside_5 : decode b_Md_outside 5 = .ok (.iload_n 1, 1) := by decide +kernel
theorem d_Md_outside_6 : decode b_Md_outside 6 = .ok (.if_icmp .le 7, 3) := by decide +kernel
theorem d_Md_outside_9 : decode b_Md_outside 9 = .ok (.iconst 1, 1) := by decide +kernel
theorem d_Md_outside_10 : decode b_Md_outside 10 = .ok (.goto 4, 3) := by decide +kernel
theorem d_Md_outside_13 : decode b_Md_outside 13 = .ok (.iconst 0, 1) := by decide +kernel
theorem d_Md_outside_14 : decode b_Md_outside 14 = .ok (.ireturn, 1) := by decide +kernel
theorem d_Md_at_0 : decode b_Md_at 0 = .ok (.iload_n 2, 1) := by decide +kernel
theorem d_Md_at_1 : decode b_Md_at 1 = .ok (.bipush 7, 2) := by decide +kernel
theorem d_Md_at_3 : decode b_Md_at 3 = .ok (.invokestatic 75, 3) := by decide +kernel
theorem d_Md_at_6 : decode b_Md_at 6 = .ok (.ifCond .ne 12, 3) := by decide +kernel
theorem d_Md_at_9 : decode b_Md_at 9 = .ok (.iload_n 3, 1) := by decide +kernel
theorem d_Md_at_10 : decode b_Md_at 10 = .ok (.bipush 7, 2) := by decide +kernel
theorem d_Md_at_12 : decode b_Md_at 12 = .ok (.invokestatic 75, 3) := by decide +kernel
theorem d_Md_at_15 : decode b_Md_at 15 = .ok (.ifCond .eq 7, 3) := by decide +kernel
theorem d_Md_at_18 : decode b_Md_at 18 = .ok (.iconst 0, 1) := by decide +kernel
theorem d_Md_at_19 : decode b_Md_at 19 = .ok (.goto 14, 3) := by decide +kernel
theorem d_Md_at_22 : decode b_Md_at 22 = .ok (.lload_n 0, 1) := by decide +kernel
theorem d_Md_at_23 : decode b_Md_at 23 = .ok (.bipush 8, 2) := by decide +kernel
theorem d_Md_at_25 : decode b_Md_at 25 = .ok (.iload_n 3, 1) := by decide +kernel
theorem d_Md_at_26 : decode b_Md_at 26 = .ok (.imul, 1) := by decide +kernel
theorem d_Md_at_27 : decode b_Md_at 27 = .ok (.iload_n 2, 1) := by decide +kernel
theorem d_Md_at_28 : decode b_Md_at 28 = .ok (.iadd, 1) := by decide +kernel
theorem d_Md_at_29 : decode b_Md_at 29 = .ok (.lushr, 1) := by decide +kernel
theorem d_Md_at_30 : decode b_Md_at 30 = .ok (.lconst 1, 1) := by decide +kernel
theorem d_Md_at_31 : decode b_Md_at 31 = .ok (.land, 1) := by decide +kernel
theorem d_Md_at_32 : decode b_Md_at 32 = .ok (.l2i, 1) := by decide +kernel
theorem d_Md_at_33 : decode b_Md_at 33 = .ok (.ireturn, 1) := by decide +kernel
theorem d_Md_shape_0 : decode b_Md_shape 0 = .ok (.aload_n 0, 1) := by decide +kernel
theorem d_Md_shape_1 : decode b_Md_shape 1 = .ok (.getfield 79, 3) := by decide +kernel
theorem d_Md_shape_4 : decode b_Md_shape 4 = .ok (.bipush 8, 2) := by decide +kernel
theorem d_Md_shape_6 : decode b_Md_shape 6 = .ok (.if_icmp .eq 41, 3) := by decide +kernel
theorem d_Md_shape_9 : decode b_Md_shape 9 = .ok (.iload_n 3, 1) := by decide +kernel
theorem d_Md_shape_10 : decode b_Md_shape 10 = .ok (.iconst 1, 1) := by decide +kernel
theorem d_Md_shape_11 : decode b_Md_shape 11 = .ok (.isub, 1) := by decide +kernel
theorem d_Md_shape_12 : decode b_Md_shape 12 = .ok (.bipush 7, 2) := by decide +kernel
theorem d_Md_shape_14 : decode b_Md_shape 14 = .ok (.invokestatic 75, 3) := by decide +kernel
theorem d_Md_shape_17 : decode b_Md_shape 17 = .ok (.ifCond .ne 30, 3) := by decide +kernel
theorem d_Md_shape_20 : decode b_Md_shape 20 = .ok (.iload 4, 2) := by decide +kernel
theorem d_Md_shape_22 : decode b_Md_shape 22 = .ok (.iconst 1, 1) := by decide +kernel
theorem d_Md_shape_23 : decode b_Md_shape 23 = .ok (.isub, 1) := by decide +kernel
theorem d_Md_shape_24 : decode b_Md_shape 24 = .ok (.bipush 7, 2) := by decide +kernel
theorem d_Md_shape_26 : decode b_Md_shape 26 = .ok (.invokestatic 75, 3) := by decide +kernel
theorem d_Md_shape_29 : decode b_Md_shape 29 = .ok (.ifCond .ne 18, 3) := by decide +kernel
theorem d_Md_shape_32 : decode b_Md_shape 32 = .ok (.iload 5, 2) := by decide +kernel
theorem d_Md_shape_34 : decode b_Md_shape 34 = .ok (.iconst (-1), 1) := by decide +kernel
theorem d_Md_shape_35 : decode b_Md_shape 35 = .ok (.if_icmp .lt 12, 3) := by decide +kernel
theorem d_Md_shape_38 : decode b_Md_shape 38 = .ok (.iload 5, 2) := by decide +kernel
theorem d_Md_shape_40 : decode b_Md_shape 40 = .ok (.aload_n 0, 1) := by decide +kernel
theorem d_Md_shape_41 : decode b_Md_shape 41 = .ok (.getfield 79, 3) := by decide +kernel
theorem d_Md_shape_44 : decode b_Md_shape 44 = .ok (.if_icmp .lt 5, 3) := by decide +kernel
theorem d_Md_shape_47 : decode b_Md_shape 47 = .ok (.iconst (-1), 1) := by decide +kernel
theorem d_Md_shape_48 : decode b_Md_shape 48 = .ok (.ireturn, 1) := by decide +kernel
theorem d_Md_shape_49 : decode b_Md_shape 49 = .ok (.iconst 0, 1) := by decide +kernel
theorem d_Md_shape_50 : decode b_Md_shape 50 = .ok (.istore 6, 2) := by decide +kernel
theorem d_Md_shape_52 : decode b_Md_shape 52 = .ok (.iload 6, 2) := by decide +kernel
theorem d_Md_shape_54 : decode b_Md_shape 54 = .ok (.bipush 8, 2) := by decide +kernel
theorem d_Md_shape_56 : decode b_Md_shape 56 = .ok (.if_icmp .ge 52, 3) := by decide +kernel
theorem d_Md_shape_59 : decode b_Md_shape 59 = .ok (.iconst 0, 1) := by decide +kernel
theorem d_Md_shape_60 : decode b_Md_shape 60 = .ok (.istore 7, 2) := by decide +kernel
theorem d_Md_shape_62 : decode b_Md_shape 62 = .ok (.iload 7, 2) := by decide +kernel
theorem d_Md_shape_64 : decode b_Md_shape 64 = .ok (.bipush 8, 2) := by decide +kernel
theorem d_Md_shape_66 : decode b_Md_shape 66 = .ok (.if_icmp .ge 36, 3) := by decide +kernel
theorem d_Md_shape_69 : decode b_Md_shape 69 = .ok (.iload 7, 2) := by decide +kernel
theorem d_Md_shape_71 : decode b_Md_shape 71 = .ok (.iload_n 3, 1) := by decide +kernel
theorem d_Md_shape_72 : decode b_Md_shape 72 = .ok (.if_icmp .ge 10, 3) := by decide +kernel
theorem d_Md_shape_75 : decode b_Md_shape 75 = .ok (.iload 6, 2) := by decide +kernel
theorem d_Md_shape_77 : decode b_Md_shape 77 = .ok (.iload 4, 2) := by decide +kernel
theorem d_Md_shape_79 : decode b_Md_shape 79 = .ok (.if_icmp .lt 17, 3) := by decide +kernel
theorem d_Md_shape_82 : decode b_Md_shape 82 = .ok (.lload_n 1, 1) := by decide +kernel
theorem d_Md_shape_83 : decode b_Md_shape 83 = .ok (.iload 7, 2) := by decide +kernel
theorem d_Md_shape_85 : decode b_Md_shape 85 = .ok (.iload 6, 2) := by decide +kernel
theorem d_Md_shape_87 : decode b_Md_shape 87 = .ok (.invokestatic 83, 3) := by decide +kernel
theorem d_Md_shape_90 : decode b_Md_shape 90 = .ok (.iconst 1, 1) := by decide +kernel
theorem d_Md_shape_91 : decode b_Md_shape 91 = .ok (.if_icmp .ne 5, 3) := by decide +kernel
theorem d_Md_shape_94 : decode b_Md_shape 94 = .ok (.iconst (-1), 1) := by decide +kernel
theorem d_Md_shape_95 : decode b_Md_shape 95 = .ok (.ireturn, 1) := by decide +kernel
theorem d_Md_shape_96 : decode b_Md_shape 96 = .ok (.iinc 7 1, 3) := by decide +kernel
theorem d_Md_shape_99 : decode b_Md_shape 99 = .ok (.goto (-37), 3) := by decide +kernel
theorem d_Md_shape_102 : decode b_Md_shape 102 = .ok (.iinc 6 1, 3) := by decide +kernel
theorem d_Md_shape_105 : decode b_Md_shape 105 = .ok (.goto (-53), 3) := by decide +kernel
theorem d_Md_shape_108 : decode b_Md_shape 108 = .ok (.aload_n 0, 1) := by decide +kernel
theorem d_Md_shape_109 : decode b_Md_shape 109 = .ok (.getfield 7, 3) := by decide +kernel
theorem d_Md_shape_112 : decode b_Md_shape 112 = .ok (.aload_n 0, 1) := by decide +kernel
theorem d_Md_shape_113 : decode b_Md_shape 113 = .ok (.getfield 79, 3) := by decide +kernel
theorem d_Md_shape_116 : decode b_Md_shape 116 = .ok (.lload_n 1, 1) := by decide +kernel
theorem d_Md_shape_117 : decode b_Md_shape 117 = .ok (.lastore, 1) := by decide +kernel
theorem d_Md_shape_118 : decode b_Md_shape 118 = .ok (.aload_n 0, 1) := by decide +kernel
theorem d_Md_shape_119 : decode b_Md_shape 119 = .ok (.getfield 13, 3) := by decide +kernel
theorem d_Md_shape_122 : decode b_Md_shape 122 = .ok (.aload_n 0, 1) := by decide +kernel
theorem d_Md_shape_123 : decode b_Md_shape 123 = .ok (.getfield 79, 3) := by decide +kernel
theorem d_Md_shape_126 : decode b_Md_shape 126 = .ok (.iload_n 3, 1) := by decide +kernel
theorem d_Md_shape_127 : decode b_Md_shape 127 = .ok (.iastore, 1) := by decide +kernel
theorem d_Md_shape_128 : decode b_Md_shape 128 = .ok (.aload_n 0, 1) := by decide +kernel
theorem d_Md_shape_129 : decode b_Md_shape 129 = .ok (.getfield 17, 3) := by decide +kernel
theorem d_Md_shape_132 : decode b_Md_shape 132 = .ok (.aload_n 0, 1) := by decide +kernel
theorem d_Md_shape_133 : decode b_Md_shape 133 = .ok (.getfield 79, 3) := by decide +kernel
theorem d_Md_shape_136 : decode b_Md_shape 136 = .ok (.iload 4, 2) := by decide +kernel
theorem d_Md_shape_138 : decode b_Md_shape 138 = .ok (.iastore, 1) := by decide +kernel
theorem d_Md_shape_139 : decode b_Md_shape 139 = .ok (.aload_n 0, 1) := by decide +kernel
theorem d_Md_shape_140 : decode b_Md_shape 140 = .ok (.getfield 20, 3) := by decide +kernel
theorem d_Md_shape_143 : decode b_Md_shape 143 = .ok (.aload_n 0, 1) := by decide +kernel
theorem d_Md_shape_144 : decode b_Md_shape 144 = .ok (.getfield 79, 3) := by decide +kernel
theorem d_Md_shape_147 : decode b_Md_shape 147 = .ok (.iload 5, 2) := by decide +kernel
theorem d_Md_shape_149 : decode b_Md_shape 149 = .ok (.iastore, 1) := by decide +kernel
theorem d_Md_shape_150 : decode b_Md_shape 150 = .ok (.aload_n 0, 1) := by decide +kernel
theorem d_Md_shape_151 : decode b_Md_shape 151 = .ok (.dup, 1) := by decide +kernel
theorem d_Md_shape_152 : decode b_Md_shape 152 = .ok (.getfield 79, 3) := by decide +kernel
theorem d_Md_shape_155 : decode b_Md_shape 155 = .ok (.iconst 1, 1) := by decide +kernel
theorem d_Md_shape_156 : decode b_Md_shape 156 = .ok (.iadd, 1) := by decide +kernel
theorem d_Md_shape_157 : decode b_Md_shape 157 = .ok (.putfield 79, 3) := by decide +kernel
theorem d_Md_shape_160 : decode b_Md_shape 160 = .ok (.aload_n 0, 1) := by decide +kernel
theorem d_Md_shape_161 : decode b_Md_shape 161 = .ok (.getfield 79, 3) := by decide +kernel
theorem d_Md_shape_164 : decode b_Md_shape 164 = .ok (.iconst 1, 1) := by decide +kernel
theorem d_Md_shape_165 : decode b_Md_shape 165 = .ok (.isub, 1) := by decide +kernel
theorem d_Md_shape_166 : decode b_Md_shape 166 = .ok (.ireturn, 1) := by decide +kernel
theorem d_Md_place_0 : decode b_Md_place 0 = .ok (.aload_n 0, 1) := by decide +kernel
theorem d_Md_place_1 : decode b_Md_place 1 = .ok (.getfield 87, 3) := by decide +kernel
theorem d_Md_place_4 : decode b_Md_place 4 = .ok (.bipush 20, 2) := by decide +kernel
theorem d_Md_place_6 : decode b_Md_place 6 = .ok (.if_icmp .eq 34, 3) := by decide +kernel
theorem d_Md_place_9 : decode b_Md_place 9 = .ok (.iload_n 1, 1) := by decide +kernel
theorem d_Md_place_10 : decode b_Md_place 10 = .ok (.aload_n 0, 1) := by decide +kernel
theorem d_Md_place_11 : decode b_Md_place 11 = .ok (.getfield 79, 3) := by decide +kernel
theorem d_Md_place_14 : decode b_Md_place 14 = .ok (.iconst 1, 1) := by decide +kernel
theorem d_Md_place_15 : decode b_Md_place 15 = .ok (.isub, 1) := by decide +kernel
theorem d_Md_place_16 : decode b_Md_place 16 = .ok (.invokestatic 75, 3) := by decide +kernel
theorem d_Md_place_19 : decode b_Md_place 19 = .ok (.ifCond .ne 21, 3) := by decide +kernel
theorem d_Md_place_22 : decode b_Md_place 22 = .ok (.iload_n 2, 1) := by decide +kernel
theorem d_Md_place_23 : decode b_Md_place 23 = .ok (.bipush 15, 2) := by decide +kernel
theorem d_Md_place_25 : decode b_Md_place 25 = .ok (.invokestatic 75, 3) := by decide +kernel
theorem d_Md_place_28 : decode b_Md_place 28 = .ok (.ifCond .ne 12, 3) := by decide +kernel
theorem d_Md_place_31 : decode b_Md_place 31 = .ok (.iload_n 3, 1) := by decide +kernel
theorem d_Md_place_32 : decode b_Md_place 32 = .ok (.bipush 15, 2) := by decide +kernel
theorem d_Md_place_34 : decode b_Md_place 34 = .ok (.invokestatic 75, 3) := by decide +kernel
theorem d_Md_place_37 : decode b_Md_place 37 = .ok (.ifCond .eq 5, 3) := by decide +kernel
theorem d_Md_place_40 : decode b_Md_place 40 = .ok (.iconst (-1), 1) := by decide +kernel
theorem d_Md_place_41 : decode b_Md_place 41 = .ok (.ireturn, 1) := by decide +kernel
theorem d_Md_place_42 : decode b_Md_place 42 = .ok (.aload_n 0, 1) := by decide +kernel
theorem d_Md_place_43 : decode b_Md_place 43 = .ok (.getfield 23, 3) := by decide +kernel
theorem d_Md_place_46 : decode b_Md_place 46 = .ok (.aload_n 0, 1) := by decide +kernel
theorem d_Md_place_47 : decode b_Md_place 47 = .ok (.getfield 87, 3) := by decide +kernel
theorem d_Md_place_50 : decode b_Md_place 50 = .ok (.iload_n 1, 1) := by decide +kernel
theorem d_Md_place_51 : decode b_Md_place 51 = .ok (.iastore, 1) := by decide +kernel
theorem d_Md_place_52 : decode b_Md_place 52 = .ok (.aload_n 0, 1) := by decide +kernel
theorem d_Md_place_53 : decode b_Md_place 53 = .ok (.getfield 26, 3) := by decide +kernel
theorem d_Md_place_56 : decode b_Md_place 56 = .ok (.aload_n 0, 1) := by decide +kernel
theorem d_Md_place_57 : decode b_Md_place 57 = .ok (.getfield 87, 3) := by decide +kernel
theorem d_Md_place_60 : decode b_Md_place 60 = .ok (.bipush 16, 2) := by decide +kernel
theorem d_Md_place_62 : decode b_Md_place 62 = .ok (.iload_n 2, 1) := by decide +kernel
theorem d_Md_place_63 : decode b_Md_place 63 = .ok (.imul, 1) := by decide +kernel
theorem d_Md_place_64 : decode b_Md_place 64 = .ok (.iload_n 3, 1) := by decide +kernel
theorem d_Md_place_65 : decode b_Md_place 65 = .ok (.iadd, 1) := by decide +kernel
theorem d_Md_place_66 : decode b_Md_place 66 = .ok (.iastore, 1) := by decide +kernel
theorem d_Md_place_67 : decode b_Md_place 67 = .ok (.aload_n 0, 1) := by decide +kernel
theorem d_Md_place_68 : decode b_Md_place 68 = .ok (.dup, 1) := by decide +kernel
theorem d_Md_place_69 : decode b_Md_place 69 = .ok (.getfield 87, 3) := by decide +kernel
theorem d_Md_place_72 : decode b_Md_place 72 = .ok (.iconst 1, 1) := by decide +kernel
theorem d_Md_place_73 : decode b_Md_place 73 = .ok (.iadd, 1) := by decide +kernel
theorem d_Md_place_74 : decode b_Md_place 74 = .ok (.putfield 87, 3) := by decide +kernel
theorem d_Md_place_77 : decode b_Md_place 77 = .ok (.aload_n 0, 1) := by decide +kernel
theorem d_Md_place_78 : decode b_Md_place 78 = .ok (.getfield 87, 3) := by decide +kernel
theorem d_Md_place_81 : decode b_Md_place 81 = .ok (.ireturn, 1) := by decide +kernel
theorem d_Md_side_0 : decode b_Md_side 0 = .ok (.iload_n 0, 1) := by decide +kernel
theorem d_Md_side_1 : decode b_Md_side 1 = .ok (.ifCond .ne 8, 3) := by decide +kernel
theorem d_Md_side_4 : decode b_Md_side 4 = .ok (.bipush 8, 2) := by decide +kernel
theorem d_Md_side_6 : decode b_Md_side 6 = .ok (.goto 4, 3) := by decide +kernel
theorem d_Md_side_9 : decode b_Md_side 9 = .ok (.iconst 4, 1) := by decide +kernel
theorem d_Md_side_10 : decode b_Md_side 10 = .ok (.ireturn, 1) := by decide +kernel
theorem d_Md_paint_0 : decode b_Md_paint 0 = .ok (.iload_n 1, 1) := by decide +kernel
theorem d_Md_paint_1 : decode b_Md_paint 1 = .ok (.iconst 1, 1) := by decide +kernel
theorem d_Md_paint_2 : decode b_Md_paint 2 = .ok (.invokestatic 75, 3) := by decide +kernel
theorem d_Md_paint_5 : decode b_Md_paint 5 = .ok (.ifCond .ne 16, 3) := by decide +kernel
theorem d_Md_paint_8 : decode b_Md_paint 8 = .ok (.iload_n 2, 1) := by decide +kernel
theorem d_Md_paint_9 : decode b_Md_paint 9 = .ok (.iload_n 1, 1) := by decide +kernel
theorem d_Md_paint_10 : decode b_Md_paint 10 = .ok (.invokestatic 90, 3) := by decide +kernel
theorem d_Md_paint_13 : decode b_Md_paint 13 = .ok (.iconst 1, 1) := by decide +kernel
theorem d_Md_paint_14 : decode b_Md_paint 14 = .ok (.isub, 1) := by decide +kernel
theorem d_Md_paint_15 : decode b_Md_paint 15 = .ok (.invokestatic 75, 3) := by decide +kernel
theorem d_Md_paint_18 : decode b_Md_paint 18 = .ok (.ifCond .eq 5, 3) := by decide +kernel
theorem d_Md_paint_21 : decode b_Md_paint 21 = .ok (.iconst 0, 1) := by decide +kernel
theorem d_Md_paint_22 : decode b_Md_paint 22 = .ok (.ireturn, 1) := by decide +kernel
theorem d_Md_paint_23 : decode b_Md_paint 23 = .ok (.iconst 0, 1) := by decide +kernel
theorem d_Md_paint_24 : decode b_Md_paint 24 = .ok (.istore 5, 2) := by decide +kernel
theorem d_Md_paint_26 : decode b_Md_paint 26 = .ok (.iload 5, 2) := by decide +kernel
theorem d_Md_paint_28 : decode b_Md_paint 28 = .ok (.bipush 8, 2) := by decide +kernel
theorem d_Md_paint_30 : decode b_Md_paint 30 = .ok (.if_icmp .ge 46, 3) := by decide +kernel
theorem d_Md_paint_33 : decode b_Md_paint 33 = .ok (.lload_n 3, 1) := by decide +kernel
theorem d_Md_paint_34 : decode b_Md_paint 34 = .ok (.bipush 8, 2) := by decide +kernel
theorem d_Md_paint_36 : decode b_Md_paint 36 = .ok (.iload 5, 2) := by decide +kernel
theorem d_Md_paint_38 : decode b_Md_paint 38 = .ok (.imul, 1) := by decide +kernel
theorem d_Md_paint_39 : decode b_Md_paint 39 = .ok (.lushr, 1) := by decide +kernel
theorem d_Md_paint_40 : decode b_Md_paint 40 = .ok (.ldc2_w 94, 3) := by decide +kernel
theorem d_Md_paint_43 : decode b_Md_paint 43 = .ok (.land, 1) := by decide +kernel
theorem d_Md_paint_44 : decode b_Md_paint 44 = .ok (.l2i, 1) := by decide +kernel
theorem d_Md_paint_45 : decode b_Md_paint 45 = .ok (.istore 6, 2) := by decide +kernel
theorem d_Md_paint_47 : decode b_Md_paint 47 = .ok (.iload 6, 2) := by decide +kernel
theorem d_Md_paint_49 : decode b_Md_paint 49 = .ok (.bipush 63, 2) := by decide +kernel
theorem d_Md_paint_51 : decode b_Md_paint 51 = .ok (.if_icmp .gt 17, 3) := by decide +kernel
theorem d_Md_paint_54 : decode b_Md_paint 54 = .ok (.iload 5, 2) := by decide +kernel
theorem d_Md_paint_56 : decode b_Md_paint 56 = .ok (.iload_n 1, 1) := by decide +kernel
theorem d_Md_paint_57 : decode b_Md_paint 57 = .ok (.invokestatic 90, 3) := by decide +kernel
theorem d_Md_paint_60 : decode b_Md_paint 60 = .ok (.if_icmp .lt 10, 3) := by decide +kernel
theorem d_Md_paint_63 : decode b_Md_paint 63 = .ok (.iload 6, 2) := by decide +kernel
theorem d_Md_paint_65 : decode b_Md_paint 65 = .ok (.ifCond .le 5, 3) := by decide +kernel
theorem d_Md_paint_68 : decode b_Md_paint 68 = .ok (.iconst 0, 1) := by decide +kernel
theorem d_Md_paint_69 : decode b_Md_paint 69 = .ok (.ireturn, 1) := by decide +kernel
theorem d_Md_paint_70 : decode b_Md_paint 70 = .ok (.iinc 5 1, 3) := by decide +kernel
theorem d_Md_paint_73 : decode b_Md_paint 73 = .ok (.goto (-47), 3) := by decide +kernel
theorem d_Md_paint_76 : decode b_Md_paint 76 = .ok (.iconst 0, 1) := by decide +kernel
theorem d_Md_paint_77 : decode b_Md_paint 77 = .ok (.istore 5, 2) := by decide +kernel
theorem d_Md_paint_79 : decode b_Md_paint 79 = .ok (.iload 5, 2) := by decide +kernel
theorem d_Md_paint_81 : decode b_Md_paint 81 = .ok (.iload_n 1, 1) := by decide +kernel
theorem d_Md_paint_82 : decode b_Md_paint 82 = .ok (.invokestatic 90, 3) := by decide +kernel
theorem d_Md_paint_85 : decode b_Md_paint 85 = .ok (.if_icmp .ge 38, 3) := by decide +kernel
theorem d_Md_paint_88 : decode b_Md_paint 88 = .ok (.aload_n 0, 1) := by decide +kernel
theorem d_Md_paint_89 : decode b_Md_paint 89 = .ok (.getfield 29, 3) := by decide +kernel
theorem d_Md_paint_92 : decode b_Md_paint 92 = .ok (.bipush 64, 2) := by decide +kernel
theorem d_Md_paint_94 : decode b_Md_paint 94 = .ok (.iload_n 1, 1) := by decide +kernel
theorem d_Md_paint_95 : decode b_Md_paint 95 = .ok (.imul, 1) := by decide +kernel
theorem d_Md_paint_96 : decode b_Md_paint 96 = .ok (.bipush 8, 2) := by decide +kernel
theorem d_Md_paint_98 : decode b_Md_paint 98 = .ok (.iload_n 2, 1) := by decide +kernel
theorem d_Md_paint_99 : decode b_Md_paint 99 = .ok (.imul, 1) := by decide +kernel
theorem d_Md_paint_100 : decode b_Md_paint 100 = .ok (.iadd, 1) := by decide +kernel
theorem d_Md_paint_101 : decode b_Md_paint 101 = .ok (.iload 5, 2) := by decide +kernel
theorem d_Md_paint_103 : decode b_Md_paint 103 = .ok (.iadd, 1) := by decide +kernel
theorem d_Md_paint_104 : decode b_Md_paint 104 = .ok (.lload_n 3, 1) := by decide +kernel
theorem d_Md_paint_105 : decode b_Md_paint 105 = .ok (.bipush 8, 2) := by decide +kernel
theorem d_Md_paint_107 : decode b_Md_paint 107 = .ok (.iload 5, 2) := by decide +kernel
theorem d_Md_paint_109 : decode b_Md_paint 109 = .ok (.imul, 1) := by decide +kernel
theorem d_Md_paint_110 : decode b_Md_paint 110 = .ok (.lushr, 1) := by decide +kernel
theorem d_Md_paint_111 : decode b_Md_paint 111 = .ok (.ldc2_w 94, 3) := by decide +kernel
theorem d_Md_paint_114 : decode b_Md_paint 114 = .ok (.land, 1) := by decide +kernel
theorem d_Md_paint_115 : decode b_Md_paint 115 = .ok (.l2i, 1) := by decide +kernel
theorem d_Md_paint_116 : decode b_Md_paint 116 = .ok (.iastore, 1) := by decide +kernel
theorem d_Md_paint_117 : decode b_Md_paint 117 = .ok (.iinc 5 1, 3) := by decide +kernel
theorem d_Md_paint_120 : decode b_Md_paint 120 = .ok (.goto (-41), 3) := by decide +kernel
theorem d_Md_paint_123 : decode b_Md_paint 123 = .ok (.iconst 1, 1) := by decide +kernel
theorem d_Md_paint_124 : decode b_Md_paint 124 = .ok (.ireturn, 1) := by decide +kernel
theorem d_Md_clear_0 : decode b_Md_clear 0 = .ok (.aload_n 0, 1) := by decide +kernel
theorem d_Md_clear_1 : decode b_Md_clear 1 = .ok (.iconst 0, 1) := by decide +kernel
theorem d_Md_clear_2 : decode b_Md_clear 2 = .ok (.putfield 79, 3) := by decide +kernel
theorem d_Md_clear_5 : decode b_Md_clear 5 = .ok (.aload_n 0, 1) := by decide +kernel
theorem d_Md_clear_6 : decode b_Md_clear 6 = .ok (.iconst 0, 1) := by decide +kernel
theorem d_Md_clear_7 : decode b_Md_clear 7 = .ok (.putfield 87, 3) := by decide +kernel
theorem d_Md_clear_10 : decode b_Md_clear 10 = .ok (.iconst 0, 1) := by decide +kernel
theorem d_Md_clear_11 : decode b_Md_clear 11 = .ok (.istore_n 1, 1) := by decide +kernel
theorem d_Md_clear_12 : decode b_Md_clear 12 = .ok (.iload_n 1, 1) := by decide +kernel
theorem d_Md_clear_13 : decode b_Md_clear 13 = .ok (.sipush 128, 3) := by decide +kernel
theorem d_Md_clear_16 : decode b_Md_clear 16 = .ok (.if_icmp .ge 16, 3) := by decide +kernel
theorem d_Md_clear_19 : decode b_Md_clear 19 = .ok (.aload_n 0, 1) := by decide +kernel
theorem d_Md_clear_20 : decode b_Md_clear 20 = .ok (.getfield 29, 3) := by decide +kernel
theorem d_Md_clear_23 : decode b_Md_clear 23 = .ok (.iload_n 1, 1) := by decide +kernel
theorem d_Md_clear_24 : decode b_Md_clear 24 = .ok (.iconst 0, 1) := by decide +kernel
theorem d_Md_clear_25 : decode b_Md_clear 25 = .ok (.iastore, 1) := by decide +kernel
theorem d_Md_clear_26 : decode b_Md_clear 26 = .ok (.iinc 1 1, 3) := by decide +kernel
theorem d_Md_clear_29 : decode b_Md_clear 29 = .ok (.goto (-17), 3) := by decide +kernel
theorem d_Md_clear_32 : decode b_Md_clear 32 = .ok (.return_, 1) := by decide +kernel
theorem d_Md_begin_0 : decode b_Md_begin 0 = .ok (.aload_n 0, 1) := by decide +kernel
theorem d_Md_begin_1 : decode b_Md_begin 1 = .ok (.iload_n 1, 1) := by decide +kernel
theorem d_Md_begin_2 : decode b_Md_begin 2 = .ok (.putfield 96, 3) := by decide +kernel
theorem d_Md_begin_5 : decode b_Md_begin 5 = .ok (.aload_n 0, 1) := by decide +kernel
theorem d_Md_begin_6 : decode b_Md_begin 6 = .ok (.ldc 100, 2) := by decide +kernel
theorem d_Md_begin_8 : decode b_Md_begin 8 = .ok (.putfield 101, 3) := by decide +kernel
theorem d_Md_begin_11 : decode b_Md_begin 11 = .ok (.aload_n 0, 1) := by decide +kernel
theorem d_Md_begin_12 : decode b_Md_begin 12 = .ok (.iconst 0, 1) := by decide +kernel
theorem d_Md_begin_13 : decode b_Md_begin 13 = .ok (.putfield 104, 3) := by decide +kernel
theorem d_Md_begin_16 : decode b_Md_begin 16 = .ok (.iconst 0, 1) := by decide +kernel
theorem d_Md_begin_17 : decode b_Md_begin 17 = .ok (.istore_n 2, 1) := by decide +kernel
theorem d_Md_begin_18 : decode b_Md_begin 18 = .ok (.iload_n 2, 1) := by decide +kernel
theorem d_Md_begin_19 : decode b_Md_begin 19 = .ok (.bipush 48, 2) := by decide +kernel
theorem d_Md_begin_21 : decode b_Md_begin 21 = .ok (.if_icmp .ge 23, 3) := by decide +kernel
theorem d_Md_begin_24 : decode b_Md_begin 24 = .ok (.aload_n 0, 1) := by decide +kernel
theorem d_Md_begin_25 : decode b_Md_begin 25 = .ok (.getfield 50, 3) := by decide +kernel
theorem d_Md_begin_28 : decode b_Md_begin 28 = .ok (.iload_n 2, 1) := by decide +kernel
theorem d_Md_begin_29 : decode b_Md_begin 29 = .ok (.iconst 1, 1) := by decide +kernel
theorem d_Md_begin_30 : decode b_Md_begin 30 = .ok (.iastore, 1) := by decide +kernel
theorem d_Md_begin_31 : decode b_Md_begin 31 = .ok (.aload_n 0, 1) := by decide +kernel
theorem d_Md_begin_32 : decode b_Md_begin 32 = .ok (.getfield 53, 3) := by decide +kernel
theorem d_Md_begin_35 : decode b_Md_begin 35 = .ok (.iload_n 2, 1) := by decide +kernel
theorem d_Md_begin_36 : decode b_Md_begin 36 = .ok (.iconst 1, 1) := by decide +kernel
theorem d_Md_begin_37 : decode b_Md_begin 37 = .ok (.iastore, 1) := by decide +kernel
theorem d_Md_begin_38 : decode b_Md_begin 38 = .ok (.iinc 2 1, 3) := by decide +kernel
theorem d_Md_begin_41 : decode b_Md_begin 41 = .ok (.goto (-23), 3) := by decide +kernel
theorem d_Md_begin_44 : decode b_Md_begin 44 = .ok (.iconst 0, 1) := by decide +kernel
theorem d_Md_begin_45 : decode b_Md_begin 45 = .ok (.istore_n 2, 1) := by decide +kernel
theorem d_Md_begin_46 : decode b_Md_begin 46 = .ok (.iload_n 2, 1) := by decide +kernel
theorem d_Md_begin_47 : decode b_Md_begin 47 = .ok (.sipush 4400, 3) := by decide +kernel
theorem d_Md_begin_50 : decode b_Md_begin 50 = .ok (.if_icmp .ge 16, 3) := by decide +kernel
theorem d_Md_begin_53 : decode b_Md_begin 53 = .ok (.aload_n 0, 1) := by decide +kernel
theorem d_Md_begin_54 : decode b_Md_begin 54 = .ok (.getfield 56, 3) := by decide +kernel
theorem d_Md_begin_57 : decode b_Md_begin 57 = .ok (.iload_n 2, 1) := by decide +kernel
theorem d_Md_begin_58 : decode b_Md_begin 58 = .ok (.iconst 0, 1) := by decide +kernel
theorem d_Md_begin_59 : decode b_Md_begin 59 = .ok (.iastore, 1) := by decide +kernel
theorem d_Md_begin_60 : decode b_Md_begin 60 = .ok (.iinc 2 1, 3) := by decide +kernel
theorem d_Md_begin_63 : decode b_Md_begin 63 = .ok (.goto (-17), 3) := by decide +kernel
theorem d_Md_begin_66 : decode b_Md_begin 66 = .ok (.return_, 1) := by decide +kernel
theorem d_Md_load_0 : decode b_Md_load 0 = .ok (.aload_n 0, 1) := by decide +kernel
theorem d_Md_load_1 : decode b_Md_load 1 = .ok (.iconst 1, 1) := by decide +kernel
theorem d_Md_load_2 : decode b_Md_load 2 = .ok (.invokevirtual 107, 3) := by decide +kernel
theorem d_Md_load_5 : decode b_Md_load 5 = .ok (.iconst 0, 1) := by decide +kernel
theorem d_Md_load_6 : decode b_Md_load 6 = .ok (.istore_n 3, 1) := by decide +kernel
theorem d_Md_load_7 : decode b_Md_load 7 = .ok (.iload_n 3, 1) := by decide +kernel
theorem d_Md_load_8 : decode b_Md_load 8 = .ok (.bipush 8, 2) := by decide +kernel
theorem d_Md_load_10 : decode b_Md_load 10 = .ok (.iload_n 2, 1) := by decide +kernel
theorem d_Md_load_11 : decode b_Md_load 11 = .ok (.imul, 1) := by decide +kernel
theorem d_Md_load_12 : decode b_Md_load 12 = .ok (.if_icmp .ge 43, 3) := by decide +kernel
theorem d_Md_load_15 : decode b_Md_load 15 = .ok (.iload_n 3, 1) := by decide +kernel
theorem d_Md_load_16 : decode b_Md_load 16 = .ok (.sipush 4400, 3) := by decide +kernel
theorem d_Md_load_19 : decode b_Md_load 19 = .ok (.if_icmp .ge 36, 3) := by decide +kernel
theorem d_Md_load_22 : decode b_Md_load 22 = .ok (.aload_n 0, 1) := by decide +kernel
theorem d_Md_load_23 : decode b_Md_load 23 = .ok (.getfield 56, 3) := by decide +kernel
theorem d_Md_load_26 : decode b_Md_load 26 = .ok (.iload_n 3, 1) := by decide +kernel
theorem d_Md_load_27 : decode b_Md_load 27 = .ok (.aload_n 0, 1) := by decide +kernel
theorem d_Md_load_28 : decode b_Md_load 28 = .ok (.getfield 32, 3) := by decide +kernel
theorem d_Md_load_31 : decode b_Md_load 31 = .ok (.iload_n 1, 1) := by decide +kernel
theorem d_Md_load_32 : decode b_Md_load 32 = .ok (.iload_n 3, 1) := by decide +kernel
theorem d_Md_load_33 : decode b_Md_load 33 = .ok (.bipush 8, 2) := by decide +kernel
theorem d_Md_load_35 : decode b_Md_load 35 = .ok (.idiv, 1) := by decide +kernel
theorem d_Md_load_36 : decode b_Md_load 36 = .ok (.iadd, 1) := by decide +kernel
theorem d_Md_load_37 : decode b_Md_load 37 = .ok (.iaload, 1) := by decide +kernel
theorem d_Md_load_38 : decode b_Md_load 38 = .ok (.bipush 7, 2) := by decide +kernel
theorem d_Md_load_40 : decode b_Md_load 40 = .ok (.iload_n 3, 1) := by decide +kernel
theorem d_Md_load_41 : decode b_Md_load 41 = .ok (.bipush 8, 2) := by decide +kernel
theorem d_Md_load_43 : decode b_Md_load 43 = .ok (.irem, 1) := by decide +kernel
theorem d_Md_load_44 : decode b_Md_load 44 = .ok (.isub, 1) := by decide +kernel
theorem d_Md_load_45 : decode b_Md_load 45 = .ok (.ishr, 1) := by decide +kernel
theorem d_Md_load_46 : decode b_Md_load 46 = .ok (.iconst 1, 1) := by decide +kernel
theorem d_Md_load_47 : decode b_Md_load 47 = .ok (.iand, 1) := by decide +kernel
theorem d_Md_load_48 : decode b_Md_load 48 = .ok (.iastore, 1) := by decide +kernel
theorem d_Md_load_49 : decode b_Md_load 49 = .ok (.iinc 3 1, 3) := by decide +kernel
theorem d_Md_load_52 : decode b_Md_load 52 = .ok (.goto (-45), 3) := by decide +kernel
theorem d_Md_load_55 : decode b_Md_load 55 = .ok (.return_, 1) := by decide +kernel
theorem d_Md_shift_0 : decode b_Md_shift 0 = .ok (.iconst 0, 1) := by decide +kernel
theorem d_Md_shift_1 : decode b_Md_shift 1 = .ok (.istore_n 3, 1) := by decide +kernel
theorem d_Md_shift_2 : decode b_Md_shift 2 = .ok (.iload_n 1, 1) := by decide +kernel
theorem d_Md_shift_3 : decode b_Md_shift 3 = .ok (.istore 4, 2) := by decide +kernel
theorem d_Md_shift_5 : decode b_Md_shift 5 = .ok (.aload_n 0, 1) := by decide +kernel
theorem d_Md_shift_6 : decode b_Md_shift 6 = .ok (.getfield 104, 3) := by decide +kernel
theorem d_Md_shift_9 : decode b_Md_shift 9 = .ok (.bipush 15, 2) := by decide +kernel
theorem d_Md_shift_11 : decode b_Md_shift 11 = .ok (.iadd, 1) := by decide +kernel
theorem d_Md_shift_12 : decode b_Md_shift 12 = .ok (.istore 5, 2) := by decide +kernel
theorem d_Md_shift_14 : decode b_Md_shift 14 = .ok (.iload 5, 2) := by decide +kernel
theorem d_Md_shift_16 : decode b_Md_shift 16 = .ok (.ifCond .lt 49, 3) := by decide +kernel
theorem d_Md_shift_19 : decode b_Md_shift 19 = .ok (.aload_n 0, 1) := by decide +kernel
theorem d_Md_shift_20 : decode b_Md_shift 20 = .ok (.getfield 56, 3) := by decide +kernel
theorem d_Md_shift_23 : decode b_Md_shift 23 = .ok (.iload 5, 2) := by decide +kernel
theorem d_Md_shift_25 : decode b_Md_shift 25 = .ok (.iaload, 1) := by decide +kernel
theorem d_Md_shift_26 : decode b_Md_shift 26 = .ok (.iload_n 2, 1) := by decide +kernel
theorem d_Md_shift_27 : decode b_Md_shift 27 = .ok (.iload 4, 2) := by decide +kernel
theorem d_Md_shift_29 : decode b_Md_shift 29 = .ok (.iconst 2, 1) := by decide +kernel
theorem d_Md_shift_30 : decode b_Md_shift 30 = .ok (.irem, 1) := by decide +kernel
theorem d_Md_shift_31 : decode b_Md_shift 31 = .ok (.imul, 1) := by decide +kernel
theorem d_Md_shift_32 : decode b_Md_shift 32 = .ok (.iadd, 1) := by decide +kernel
theorem d_Md_shift_33 : decode b_Md_shift 33 = .ok (.iload_n 3, 1) := by decide +kernel
theorem d_Md_shift_34 : decode b_Md_shift 34 = .ok (.iadd, 1) := by decide +kernel
theorem d_Md_shift_35 : decode b_Md_shift 35 = .ok (.istore 6, 2) := by decide +kernel
theorem d_Md_shift_37 : decode b_Md_shift 37 = .ok (.iload 4, 2) := by decide +kernel
theorem d_Md_shift_39 : decode b_Md_shift 39 = .ok (.iconst 2, 1) := by decide +kernel
theorem d_Md_shift_40 : decode b_Md_shift 40 = .ok (.idiv, 1) := by decide +kernel
theorem d_Md_shift_41 : decode b_Md_shift 41 = .ok (.istore 4, 2) := by decide +kernel
theorem d_Md_shift_43 : decode b_Md_shift 43 = .ok (.aload_n 0, 1) := by decide +kernel
theorem d_Md_shift_44 : decode b_Md_shift 44 = .ok (.getfield 56, 3) := by decide +kernel
theorem d_Md_shift_47 : decode b_Md_shift 47 = .ok (.iload 5, 2) := by decide +kernel
theorem d_Md_shift_49 : decode b_Md_shift 49 = .ok (.iload 6, 2) := by decide +kernel
theorem d_Md_shift_51 : decode b_Md_shift 51 = .ok (.iconst 1, 1) := by decide +kernel
theorem d_Md_shift_52 : decode b_Md_shift 52 = .ok (.iand, 1) := by decide +kernel
theorem d_Md_shift_53 : decode b_Md_shift 53 = .ok (.iastore, 1) := by decide +kernel
theorem d_Md_shift_54 : decode b_Md_shift 54 = .ok (.iload 6, 2) := by decide +kernel
theorem d_Md_shift_56 : decode b_Md_shift 56 = .ok (.iconst 1, 1) := by decide +kernel
theorem d_Md_shift_57 : decode b_Md_shift 57 = .ok (.ishr, 1) := by decide +kernel
theorem d_Md_shift_58 : decode b_Md_shift 58 = .ok (.istore_n 3, 1) := by decide +kernel
theorem d_Md_shift_59 : decode b_Md_shift 59 = .ok (.iinc 5 (-1), 3) := by decide +kernel
theorem d_Md_shift_62 : decode b_Md_shift 62 = .ok (.goto (-48), 3) := by decide +kernel
theorem d_Md_shift_65 : decode b_Md_shift 65 = .ok (.return_, 1) := by decide +kernel
theorem d_Md_units_0 : decode b_Md_units 0 = .ok (.iconst 0, 1) := by decide +kernel
theorem d_Md_units_1 : decode b_Md_units 1 = .ok (.istore_n 1, 1) := by decide +kernel
theorem d_Md_units_2 : decode b_Md_units 2 = .ok (.iconst 0, 1) := by decide +kernel
theorem d_Md_units_3 : decode b_Md_units 3 = .ok (.istore_n 2, 1) := by decide +kernel
theorem d_Md_units_4 : decode b_Md_units 4 = .ok (.iload_n 2, 1) := by decide +kernel
theorem d_Md_units_5 : decode b_Md_units 5 = .ok (.bipush 16, 2) := by decide +kernel
theorem d_Md_units_7 : decode b_Md_units 7 = .ok (.if_icmp .ge 25, 3) := by decide +kernel
theorem d_Md_units_10 : decode b_Md_units 10 = .ok (.iconst 2, 1) := by decide +kernel
theorem d_Md_units_11 : decode b_Md_units 11 = .ok (.iload_n 1, 1) := by decide +kernel
theorem d_Md_units_12 : decode b_Md_units 12 = .ok (.imul, 1) := by decide +kernel
theorem d_Md_units_13 : decode b_Md_units 13 = .ok (.aload_n 0, 1) := by decide +kernel
theorem d_Md_units_14 : decode b_Md_units 14 = .ok (.getfield 56, 3) := by decide +kernel
theorem d_Md_units_17 : decode b_Md_units 17 = .ok (.aload_n 0, 1) := by decide +kernel
theorem d_Md_units_18 : decode b_Md_units 18 = .ok (.getfield 104, 3) := by decide +kernel
theorem d_Md_units_21 : decode b_Md_units 21 = .ok (.iload_n 2, 1) := by decide +kernel
theorem d_Md_units_22 : decode b_Md_units 22 = .ok (.iadd, 1) := by decide +kernel
theorem d_Md_units_23 : decode b_Md_units 23 = .ok (.iaload, 1) := by decide +kernel
theorem d_Md_units_24 : decode b_Md_units 24 = .ok (.iadd, 1) := by decide +kernel
theorem d_Md_units_25 : decode b_Md_units 25 = .ok (.istore_n 1, 1) := by decide +kernel
theorem d_Md_units_26 : decode b_Md_units 26 = .ok (.iinc 2 1, 3) := by decide +kernel
theorem d_Md_units_29 : decode b_Md_units 29 = .ok (.goto (-25), 3) := by decide +kernel
theorem d_Md_units_32 : decode b_Md_units 32 = .ok (.iload_n 1, 1) := by decide +kernel
theorem d_Md_units_33 : decode b_Md_units 33 = .ok (.ireturn, 1) := by decide +kernel
theorem d_Md_code_0 : decode b_Md_code 0 = .ok (.aload_n 0, 1) := by decide +kernel
theorem d_Md_code_1 : decode b_Md_code 1 = .ok (.getfield 101, 3) := by decide +kernel
theorem d_Md_code_4 : decode b_Md_code 4 = .ok (.aload_n 0, 1) := by decide +kernel
theorem d_Md_code_5 : decode b_Md_code 5 = .ok (.getfield 50, 3) := by decide +kernel
theorem d_Md_code_8 : decode b_Md_code 8 = .ok (.iload_n 1, 1) := by decide +kernel
theorem d_Md_code_9 : decode b_Md_code 9 = .ok (.iaload, 1) := by decide +kernel
theorem d_Md_code_10 : decode b_Md_code 10 = .ok (.imul, 1) := by decide +kernel
theorem d_Md_code_11 : decode b_Md_code 11 = .ok (.aload_n 0, 1) := by decide +kernel
theorem d_Md_code_12 : decode b_Md_code 12 = .ok (.getfield 50, 3) := by decide +kernel
theorem d_Md_code_15 : decode b_Md_code 15 = .ok (.iload_n 1, 1) := by decide +kernel
theorem d_Md_code_16 : decode b_Md_code 16 = .ok (.iaload, 1) := by decide +kernel
theorem d_Md_code_17 : decode b_Md_code 17 = .ok (.aload_n 0, 1) := by decide +kernel
theorem d_Md_code_18 : decode b_Md_code 18 = .ok (.getfield 53, 3) := by decide +kernel
theorem d_Md_code_21 : decode b_Md_code 21 = .ok (.iload_n 1, 1) := by decide +kernel
theorem d_Md_code_22 : decode b_Md_code 22 = .ok (.iaload, 1) := by decide +kernel
theorem d_Md_code_23 : decode b_Md_code 23 = .ok (.iadd, 1) := by decide +kernel
theorem d_Md_code_24 : decode b_Md_code 24 = .ok (.idiv, 1) := by decide +kernel
theorem d_Md_code_25 : decode b_Md_code 25 = .ok (.istore_n 3, 1) := by decide +kernel
theorem d_Md_code_26 : decode b_Md_code 26 = .ok (.iload_n 2, 1) := by decide +kernel
theorem d_Md_code_27 : decode b_Md_code 27 = .ok (.istore 4, 2) := by decide +kernel
theorem d_Md_code_29 : decode b_Md_code 29 = .ok (.aload_n 0, 1) := by decide +kernel
theorem d_Md_code_30 : decode b_Md_code 30 = .ok (.getfield 96, 3) := by decide +kernel
theorem d_Md_code_33 : decode b_Md_code 33 = .ok (.ifCond .eq 18, 3) := by decide +kernel
theorem d_Md_code_36 : decode b_Md_code 36 = .ok (.aload_n 0, 1) := by decide +kernel
theorem d_Md_code_37 : decode b_Md_code 37 = .ok (.invokevirtual 111, 3) := by decide +kernel
theorem d_Md_code_40 : decode b_Md_code 40 = .ok (.iload_n 3, 1) := by decide +kernel
theorem d_Md_code_41 : decode b_Md_code 41 = .ok (.if_icmp .lt 7, 3) := by decide +kernel
theorem d_Md_code_44 : decode b_Md_code 44 = .ok (.iconst 1, 1) := by decide +kernel
theorem d_Md_code_45 : decode b_Md_code 45 = .ok (.goto 4, 3) := by decide +kernel
theorem d_Md_code_48 : decode b_Md_code 48 = .ok (.iconst 0, 1) := by decide +kernel
theorem d_Md_code_49 : decode b_Md_code 49 = .ok (.istore 4, 2) := by decide +kernel
theorem d_Md_code_51 : decode b_Md_code 51 = .ok (.iload 4, 2) := by decide +kernel
theorem d_Md_code_53 : decode b_Md_code 53 = .ok (.iconst 1, 1) := by decide +kernel
theorem d_Md_code_54 : decode b_Md_code 54 = .ok (.if_icmp .ne 43, 3) := by decide +kernel
theorem d_Md_code_57 : decode b_Md_code 57 = .ok (.aload_n 0, 1) := by decide +kernel
theorem d_Md_code_58 : decode b_Md_code 58 = .ok (.iload_n 3, 1) := by decide +kernel
theorem d_Md_code_59 : decode b_Md_code 59 = .ok (.aload_n 0, 1) := by decide +kernel
theorem d_Md_code_60 : decode b_Md_code 60 = .ok (.getfield 96, 3) := by decide +kernel
theorem d_Md_code_63 : decode b_Md_code 63 = .ok (.ifCond .eq 7, 3) := by decide +kernel
theorem d_Md_code_66 : decode b_Md_code 66 = .ok (.iconst (-1), 1) := by decide +kernel
theorem d_Md_code_67 : decode b_Md_code 67 = .ok (.goto 4, 3) := by decide +kernel
theorem d_Md_code_70 : decode b_Md_code 70 = .ok (.iconst 1, 1) := by decide +kernel
theorem d_Md_code_71 : decode b_Md_code 71 = .ok (.invokevirtual 115, 3) := by decide +kernel
theorem d_Md_code_74 : decode b_Md_code 74 = .ok (.aload_n 0, 1) := by decide +kernel
theorem d_Md_code_75 : decode b_Md_code 75 = .ok (.dup, 1) := by decide +kernel
theorem d_Md_code_76 : decode b_Md_code 76 = .ok (.getfield 101, 3) := by decide +kernel
theorem d_Md_code_79 : decode b_Md_code 79 = .ok (.iload_n 3, 1) := by decide +kernel
theorem d_Md_code_80 : decode b_Md_code 80 = .ok (.isub, 1) := by decide +kernel
theorem d_Md_code_81 : decode b_Md_code 81 = .ok (.putfield 101, 3) := by decide +kernel
theorem d_Md_code_84 : decode b_Md_code 84 = .ok (.aload_n 0, 1) := by decide +kernel
theorem d_Md_code_85 : decode b_Md_code 85 = .ok (.getfield 53, 3) := by decide +kernel
theorem d_Md_code_88 : decode b_Md_code 88 = .ok (.iload_n 1, 1) := by decide +kernel
theorem d_Md_code_89 : decode b_Md_code 89 = .ok (.dup2, 1) := by decide +kernel
theorem d_Md_code_90 : decode b_Md_code 90 = .ok (.iaload, 1) := by decide +kernel
theorem d_Md_code_91 : decode b_Md_code 91 = .ok (.iconst 1, 1) := by decide +kernel
theorem d_Md_code_92 : decode b_Md_code 92 = .ok (.iadd, 1) := by decide +kernel
theorem d_Md_code_93 : decode b_Md_code 93 = .ok (.iastore, 1) := by decide +kernel
theorem d_Md_code_94 : decode b_Md_code 94 = .ok (.goto 18, 3) := by decide +kernel
theorem d_Md_code_97 : decode b_Md_code 97 = .ok (.aload_n 0, 1) := by decide +kernel
theorem d_Md_code_98 : decode b_Md_code 98 = .ok (.iload_n 3, 1) := by decide +kernel
theorem d_Md_code_99 : decode b_Md_code 99 = .ok (.putfield 101, 3) := by decide +kernel
theorem d_Md_code_102 : decode b_Md_code 102 = .ok (.aload_n 0, 1) := by decide +kernel
theorem d_Md_code_103 : decode b_Md_code 103 = .ok (.getfield 50, 3) := by decide +kernel
theorem d_Md_code_106 : decode b_Md_code 106 = .ok (.iload_n 1, 1) := by decide +kernel
theorem d_Md_code_107 : decode b_Md_code 107 = .ok (.dup2, 1) := by decide +kernel
theorem d_Md_code_108 : decode b_Md_code 108 = .ok (.iaload, 1) := by decide +kernel
theorem d_Md_code_109 : decode b_Md_code 109 = .ok (.iconst 1, 1) := by decide +kernel
theorem d_Md_code_110 : decode b_Md_code 110 = .ok (.iadd, 1) := by decide +kernel
theorem d_Md_code_111 : decode b_Md_code 111 = .ok (.iastore, 1) := by decide +kernel
theorem d_Md_code_112 : decode b_Md_code 112 = .ok (.aload_n 0, 1) := by decide +kernel
theorem d_Md_code_113 : decode b_Md_code 113 = .ok (.getfield 50, 3) := by decide +kernel
theorem d_Md_code_116 : decode b_Md_code 116 = .ok (.iload_n 1, 1) := by decide +kernel
theorem d_Md_code_117 : decode b_Md_code 117 = .ok (.iaload, 1) := by decide +kernel
theorem d_Md_code_118 : decode b_Md_code 118 = .ok (.aload_n 0, 1) := by decide +kernel
theorem d_Md_code_119 : decode b_Md_code 119 = .ok (.getfield 53, 3) := by decide +kernel
theorem d_Md_code_122 : decode b_Md_code 122 = .ok (.iload_n 1, 1) := by decide +kernel
theorem d_Md_code_123 : decode b_Md_code 123 = .ok (.iaload, 1) := by decide +kernel
theorem d_Md_code_124 : decode b_Md_code 124 = .ok (.iadd, 1) := by decide +kernel
theorem d_Md_code_125 : decode b_Md_code 125 = .ok (.bipush 32, 2) := by decide +kernel
theorem d_Md_code_127 : decode b_Md_code 127 = .ok (.if_icmp .ne 35, 3) := by decide +kernel
theorem d_Md_code_130 : decode b_Md_code 130 = .ok (.aload_n 0, 1) := by decide +kernel
theorem d_Md_code_131 : decode b_Md_code 131 = .ok (.getfield 50, 3) := by decide +kernel
theorem d_Md_code_134 : decode b_Md_code 134 = .ok (.iload_n 1, 1) := by decide +kernel
theorem d_Md_code_135 : decode b_Md_code 135 = .ok (.aload_n 0, 1) := by decide +kernel
theorem d_Md_code_136 : decode b_Md_code 136 = .ok (.getfield 50, 3) := by decide +kernel
theorem d_Md_code_139 : decode b_Md_code 139 = .ok (.iload_n 1, 1) := by decide +kernel
theorem d_Md_code_140 : decode b_Md_code 140 = .ok (.iaload, 1) := by decide +kernel
theorem d_Md_code_141 : decode b_Md_code 141 = .ok (.iconst 1, 1) := by decide +kernel
theorem d_Md_code_142 : decode b_Md_code 142 = .ok (.iadd, 1) := by decide +kernel
theorem d_Md_code_143 : decode b_Md_code 143 = .ok (.iconst 2, 1) := by decide +kernel
theorem d_Md_code_144 : decode b_Md_code 144 = .ok (.idiv, 1) := by decide +kernel
theorem d_Md_code_145 : decode b_Md_code 145 = .ok (.iastore, 1) := by decide +kernel
theorem d_Md_code_146 : decode b_Md_code 146 = .ok (.aload_n 0, 1) := by decide +kernel
theorem d_Md_code_147 : decode b_Md_code 147 = .ok (.getfield 53, 3) := by decide +kernel
theorem d_Md_code_150 : decode b_Md_code 150 = .ok (.iload_n 1, 1) := by decide +kernel
theorem d_Md_code_151 : decode b_Md_code 151 = .ok (.aload_n 0, 1) := by decide +kernel
theorem d_Md_code_152 : decode b_Md_code 152 = .ok (.getfield 53, 3) := by decide +kernel
theorem d_Md_code_155 : decode b_Md_code 155 = .ok (.iload_n 1, 1) := by decide +kernel
theorem d_Md_code_156 : decode b_Md_code 156 = .ok (.iaload, 1) := by decide +kernel
theorem d_Md_code_157 : decode b_Md_code 157 = .ok (.iconst 1, 1) := by decide +kernel
theorem d_Md_code_158 : decode b_Md_code 158 = .ok (.iadd, 1) := by decide +kernel
theorem d_Md_code_159 : decode b_Md_code 159 = .ok (.iconst 2, 1) := by decide +kernel
theorem d_Md_code_160 : decode b_Md_code 160 = .ok (.idiv, 1) := by decide +kernel
theorem d_Md_code_161 : decode b_Md_code 161 = .ok (.iastore, 1) := by decide +kernel
theorem d_Md_code_162 : decode b_Md_code 162 = .ok (.iconst 0, 1) := by decide +kernel
theorem d_Md_code_163 : decode b_Md_code 163 = .ok (.istore 5, 2) := by decide +kernel
theorem d_Md_code_165 : decode b_Md_code 165 = .ok (.iload 5, 2) := by decide +kernel
theorem d_Md_code_167 : decode b_Md_code 167 = .ok (.bipush 16, 2) := by decide +kernel
theorem d_Md_code_169 : decode b_Md_code 169 = .ok (.if_icmp .ge 38, 3) := by decide +kernel
theorem d_Md_code_172 : decode b_Md_code 172 = .ok (.aload_n 0, 1) := by decide +kernel
theorem d_Md_code_173 : decode b_Md_code 173 = .ok (.getfield 101, 3) := by decide +kernel
theorem d_Md_code_176 : decode b_Md_code 176 = .ok (.ldc 119, 2) := by decide +kernel
theorem d_Md_code_178 : decode b_Md_code 178 = .ok (.if_icmp .gt 29, 3) := by decide +kernel
theorem d_Md_code_181 : decode b_Md_code 181 = .ok (.aload_n 0, 1) := by decide +kernel
theorem d_Md_code_182 : decode b_Md_code 182 = .ok (.dup, 1) := by decide +kernel
theorem d_Md_code_183 : decode b_Md_code 183 = .ok (.getfield 101, 3) := by decide +kernel
theorem d_Md_code_186 : decode b_Md_code 186 = .ok (.iconst 2, 1) := by decide +kernel
theorem d_Md_code_187 : decode b_Md_code 187 = .ok (.imul, 1) := by decide +kernel
theorem d_Md_code_188 : decode b_Md_code 188 = .ok (.putfield 101, 3) := by decide +kernel
theorem d_Md_code_191 : decode b_Md_code 191 = .ok (.aload_n 0, 1) := by decide +kernel
theorem d_Md_code_192 : decode b_Md_code 192 = .ok (.dup, 1) := by decide +kernel
theorem d_Md_code_193 : decode b_Md_code 193 = .ok (.getfield 104, 3) := by decide +kernel
theorem d_Md_code_196 : decode b_Md_code 196 = .ok (.iconst 1, 1) := by decide +kernel
theorem d_Md_code_197 : decode b_Md_code 197 = .ok (.iadd, 1) := by decide +kernel
theorem d_Md_code_198 : decode b_Md_code 198 = .ok (.putfield 104, 3) := by decide +kernel
theorem d_Md_code_201 : decode b_Md_code 201 = .ok (.iinc 5 1, 3) := by decide +kernel
theorem d_Md_code_204 : decode b_Md_code 204 = .ok (.goto (-39), 3) := by decide +kernel
theorem d_Md_code_207 : decode b_Md_code 207 = .ok (.iload 4, 2) := by decide +kernel
theorem d_Md_code_209 : decode b_Md_code 209 = .ok (.ireturn, 1) := by decide +kernel
