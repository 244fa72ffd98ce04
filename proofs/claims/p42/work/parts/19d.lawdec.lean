theorem dL_init_0 : decode cL_init 0 = .ok (.aload_n 0, 1) := by decide +kernel
theorem dL_init_1 : decode cL_init 1 = .ok (.invokespecial 1, 3) := by decide +kernel
theorem dL_init_4 : decode cL_init 4 = .ok (.aload_n 0, 1) := by decide +kernel
theorem dL_init_5 : decode cL_init 5 = .ok (.new 7, 3) := by decide +kernel
theorem dL_init_8 : decode cL_init 8 = .ok (.dup, 1) := by decide +kernel
theorem dL_init_9 : decode cL_init 9 = .ok (.invokespecial 9, 3) := by decide +kernel
theorem dL_init_12 : decode cL_init 12 = .ok (.putfield 10, 3) := by decide +kernel
theorem dL_init_15 : decode cL_init 15 = .ok (.return_, 1) := by decide +kernel
theorem dL_cell_0 : decode cL_cell 0 = .ok (.iload_n 1, 1) := by decide +kernel
theorem dL_cell_1 : decode cL_cell 1 = .ok (.aload_n 0, 1) := by decide +kernel
theorem dL_cell_2 : decode cL_cell 2 = .ok (.arraylength, 1) := by decide +kernel
theorem dL_cell_3 : decode cL_cell 3 = .ok (.if_icmp .ge 9, 3) := by decide +kernel
theorem dL_cell_6 : decode cL_cell 6 = .ok (.aload_n 0, 1) := by decide +kernel
theorem dL_cell_7 : decode cL_cell 7 = .ok (.iload_n 1, 1) := by decide +kernel
theorem dL_cell_8 : decode cL_cell 8 = .ok (.iaload, 1) := by decide +kernel
theorem dL_cell_9 : decode cL_cell 9 = .ok (.goto 9, 3) := by decide +kernel
theorem dL_cell_12 : decode cL_cell 12 = .ok (.ldc 16, 2) := by decide +kernel
theorem dL_cell_14 : decode cL_cell 14 = .ok (.iload_n 1, 1) := by decide +kernel
theorem dL_cell_15 : decode cL_cell 15 = .ok (.iconst 1, 1) := by decide +kernel
theorem dL_cell_16 : decode cL_cell 16 = .ok (.iadd, 1) := by decide +kernel
theorem dL_cell_17 : decode cL_cell 17 = .ok (.imul, 1) := by decide +kernel
theorem dL_cell_18 : decode cL_cell 18 = .ok (.ireturn, 1) := by decide +kernel
theorem dL_draw_0 : decode cL_draw 0 = .ok (.aload_n 0, 1) := by decide +kernel
theorem dL_draw_1 : decode cL_draw 1 = .ok (.aload_n 0, 1) := by decide +kernel
theorem dL_draw_2 : decode cL_draw 2 = .ok (.getfield 17, 3) := by decide +kernel
theorem dL_draw_5 : decode cL_draw 5 = .ok (.ifCond .ne 13, 3) := by decide +kernel
theorem dL_draw_8 : decode cL_draw 8 = .ok (.aload_n 0, 1) := by decide +kernel
theorem dL_draw_9 : decode cL_draw 9 = .ok (.getfield 21, 3) := by decide +kernel
theorem dL_draw_12 : decode cL_draw 12 = .ok (.invokestatic 25, 3) := by decide +kernel
theorem dL_draw_15 : decode cL_draw 15 = .ok (.goto 7, 3) := by decide +kernel
theorem dL_draw_18 : decode cL_draw 18 = .ok (.aload_n 0, 1) := by decide +kernel
theorem dL_draw_19 : decode cL_draw 19 = .ok (.getfield 29, 3) := by decide +kernel
theorem dL_draw_22 : decode cL_draw 22 = .ok (.putfield 29, 3) := by decide +kernel
theorem dL_draw_25 : decode cL_draw 25 = .ok (.aload_n 0, 1) := by decide +kernel
theorem dL_draw_26 : decode cL_draw 26 = .ok (.dup, 1) := by decide +kernel
theorem dL_draw_27 : decode cL_draw 27 = .ok (.getfield 17, 3) := by decide +kernel
theorem dL_draw_30 : decode cL_draw 30 = .ok (.iconst 1, 1) := by decide +kernel
theorem dL_draw_31 : decode cL_draw 31 = .ok (.iadd, 1) := by decide +kernel
theorem dL_draw_32 : decode cL_draw 32 = .ok (.putfield 17, 3) := by decide +kernel
theorem dL_draw_35 : decode cL_draw 35 = .ok (.aload_n 0, 1) := by decide +kernel
theorem dL_draw_36 : decode cL_draw 36 = .ok (.getfield 29, 3) := by decide +kernel
theorem dL_draw_39 : decode cL_draw 39 = .ok (.ifCond .ne 34, 3) := by decide +kernel
theorem dL_draw_42 : decode cL_draw 42 = .ok (.aload_n 0, 1) := by decide +kernel
theorem dL_draw_43 : decode cL_draw 43 = .ok (.getfield 21, 3) := by decide +kernel
theorem dL_draw_46 : decode cL_draw 46 = .ok (.aload_n 0, 1) := by decide +kernel
theorem dL_draw_47 : decode cL_draw 47 = .ok (.getfield 17, 3) := by decide +kernel
theorem dL_draw_50 : decode cL_draw 50 = .ok (.invokestatic 32, 3) := by decide +kernel
theorem dL_draw_53 : decode cL_draw 53 = .ok (.aload_n 0, 1) := by decide +kernel
theorem dL_draw_54 : decode cL_draw 54 = .ok (.getfield 21, 3) := by decide +kernel
theorem dL_draw_57 : decode cL_draw 57 = .ok (.aload_n 0, 1) := by decide +kernel
theorem dL_draw_58 : decode cL_draw 58 = .ok (.getfield 17, 3) := by decide +kernel
theorem dL_draw_61 : decode cL_draw 61 = .ok (.iconst 1, 1) := by decide +kernel
theorem dL_draw_62 : decode cL_draw 62 = .ok (.iadd, 1) := by decide +kernel
theorem dL_draw_63 : decode cL_draw 63 = .ok (.invokestatic 32, 3) := by decide +kernel
theorem dL_draw_66 : decode cL_draw 66 = .ok (.bipush 7, 2) := by decide +kernel
theorem dL_draw_68 : decode cL_draw 68 = .ok (.iushr, 1) := by decide +kernel
theorem dL_draw_69 : decode cL_draw 69 = .ok (.ixor, 1) := by decide +kernel
theorem dL_draw_70 : decode cL_draw 70 = .ok (.goto 14, 3) := by decide +kernel
theorem dL_draw_73 : decode cL_draw 73 = .ok (.aload_n 0, 1) := by decide +kernel
theorem dL_draw_74 : decode cL_draw 74 = .ok (.getfield 29, 3) := by decide +kernel
theorem dL_draw_77 : decode cL_draw 77 = .ok (.aload_n 0, 1) := by decide +kernel
theorem dL_draw_78 : decode cL_draw 78 = .ok (.getfield 17, 3) := by decide +kernel
theorem dL_draw_81 : decode cL_draw 81 = .ok (.invokestatic 36, 3) := by decide +kernel
theorem dL_draw_84 : decode cL_draw 84 = .ok (.istore_n 2, 1) := by decide +kernel
theorem dL_draw_85 : decode cL_draw 85 = .ok (.iload_n 2, 1) := by decide +kernel
theorem dL_draw_86 : decode cL_draw 86 = .ok (.ldc 40, 2) := by decide +kernel
theorem dL_draw_88 : decode cL_draw 88 = .ok (.iand, 1) := by decide +kernel
theorem dL_draw_89 : decode cL_draw 89 = .ok (.iload_n 1, 1) := by decide +kernel
theorem dL_draw_90 : decode cL_draw 90 = .ok (.irem, 1) := by decide +kernel
theorem dL_draw_91 : decode cL_draw 91 = .ok (.ireturn, 1) := by decide +kernel
theorem dL_stirred_0 : decode cL_stirred 0 = .ok (.ldc 16, 2) := by decide +kernel
theorem dL_stirred_2 : decode cL_stirred 2 = .ok (.aload_n 0, 1) := by decide +kernel
theorem dL_stirred_3 : decode cL_stirred 3 = .ok (.arraylength, 1) := by decide +kernel
theorem dL_stirred_4 : decode cL_stirred 4 = .ok (.iadd, 1) := by decide +kernel
theorem dL_stirred_5 : decode cL_stirred 5 = .ok (.istore_n 1, 1) := by decide +kernel
theorem dL_stirred_6 : decode cL_stirred 6 = .ok (.aload_n 0, 1) := by decide +kernel
theorem dL_stirred_7 : decode cL_stirred 7 = .ok (.astore_n 2, 1) := by decide +kernel
theorem dL_stirred_8 : decode cL_stirred 8 = .ok (.aload_n 2, 1) := by decide +kernel
theorem dL_stirred_9 : decode cL_stirred 9 = .ok (.arraylength, 1) := by decide +kernel
theorem dL_stirred_10 : decode cL_stirred 10 = .ok (.istore_n 3, 1) := by decide +kernel
theorem dL_stirred_11 : decode cL_stirred 11 = .ok (.iconst 0, 1) := by decide +kernel
theorem dL_stirred_12 : decode cL_stirred 12 = .ok (.istore 4, 2) := by decide +kernel
theorem dL_stirred_14 : decode cL_stirred 14 = .ok (.iload 4, 2) := by decide +kernel
theorem dL_stirred_16 : decode cL_stirred 16 = .ok (.iload_n 3, 1) := by decide +kernel
theorem dL_stirred_17 : decode cL_stirred 17 = .ok (.if_icmp .ge 28, 3) := by decide +kernel
theorem dL_stirred_20 : decode cL_stirred 20 = .ok (.aload_n 2, 1) := by decide +kernel
theorem dL_stirred_21 : decode cL_stirred 21 = .ok (.iload 4, 2) := by decide +kernel
theorem dL_stirred_23 : decode cL_stirred 23 = .ok (.iaload, 1) := by decide +kernel
theorem dL_stirred_24 : decode cL_stirred 24 = .ok (.istore 5, 2) := by decide +kernel
theorem dL_stirred_26 : decode cL_stirred 26 = .ok (.iload_n 1, 1) := by decide +kernel
theorem dL_stirred_27 : decode cL_stirred 27 = .ok (.iload 5, 2) := by decide +kernel
theorem dL_stirred_29 : decode cL_stirred 29 = .ok (.ixor, 1) := by decide +kernel
theorem dL_stirred_30 : decode cL_stirred 30 = .ok (.iload_n 1, 1) := by decide +kernel
theorem dL_stirred_31 : decode cL_stirred 31 = .ok (.bipush 15, 2) := by decide +kernel
theorem dL_stirred_33 : decode cL_stirred 33 = .ok (.iushr, 1) := by decide +kernel
theorem dL_stirred_34 : decode cL_stirred 34 = .ok (.ixor, 1) := by decide +kernel
theorem dL_stirred_35 : decode cL_stirred 35 = .ok (.ldc 41, 2) := by decide +kernel
theorem dL_stirred_37 : decode cL_stirred 37 = .ok (.imul, 1) := by decide +kernel
theorem dL_stirred_38 : decode cL_stirred 38 = .ok (.istore_n 1, 1) := by decide +kernel
theorem dL_stirred_39 : decode cL_stirred 39 = .ok (.iinc 4 1, 3) := by decide +kernel
theorem dL_stirred_42 : decode cL_stirred 42 = .ok (.goto (-28), 3) := by decide +kernel
theorem dL_stirred_45 : decode cL_stirred 45 = .ok (.iload_n 1, 1) := by decide +kernel
theorem dL_stirred_46 : decode cL_stirred 46 = .ok (.iload_n 1, 1) := by decide +kernel
theorem dL_stirred_47 : decode cL_stirred 47 = .ok (.bipush 13, 2) := by decide +kernel
theorem dL_stirred_49 : decode cL_stirred 49 = .ok (.iushr, 1) := by decide +kernel
theorem dL_stirred_50 : decode cL_stirred 50 = .ok (.ixor, 1) := by decide +kernel
theorem dL_stirred_51 : decode cL_stirred 51 = .ok (.istore_n 1, 1) := by decide +kernel
theorem dL_stirred_52 : decode cL_stirred 52 = .ok (.iload_n 1, 1) := by decide +kernel
theorem dL_stirred_53 : decode cL_stirred 53 = .ok (.iconst 3, 1) := by decide +kernel
theorem dL_stirred_54 : decode cL_stirred 54 = .ok (.iand, 1) := by decide +kernel
theorem dL_stirred_55 : decode cL_stirred 55 = .ok (.ifCond .ne 7, 3) := by decide +kernel
theorem dL_stirred_58 : decode cL_stirred 58 = .ok (.iconst 0, 1) := by decide +kernel
theorem dL_stirred_59 : decode cL_stirred 59 = .ok (.goto 4, 3) := by decide +kernel
theorem dL_stirred_62 : decode cL_stirred 62 = .ok (.iload_n 1, 1) := by decide +kernel
theorem dL_stirred_63 : decode cL_stirred 63 = .ok (.ireturn, 1) := by decide +kernel
theorem dL_mixed_0 : decode cL_mixed 0 = .ok (.iload_n 0, 1) := by decide +kernel
theorem dL_mixed_1 : decode cL_mixed 1 = .ok (.iload_n 1, 1) := by decide +kernel
theorem dL_mixed_2 : decode cL_mixed 2 = .ok (.ldc 42, 2) := by decide +kernel
theorem dL_mixed_4 : decode cL_mixed 4 = .ok (.imul, 1) := by decide +kernel
theorem dL_mixed_5 : decode cL_mixed 5 = .ok (.iadd, 1) := by decide +kernel
theorem dL_mixed_6 : decode cL_mixed 6 = .ok (.ldc 43, 2) := by decide +kernel
theorem dL_mixed_8 : decode cL_mixed 8 = .ok (.imul, 1) := by decide +kernel
theorem dL_mixed_9 : decode cL_mixed 9 = .ok (.istore_n 2, 1) := by decide +kernel
theorem dL_mixed_10 : decode cL_mixed 10 = .ok (.iload_n 2, 1) := by decide +kernel
theorem dL_mixed_11 : decode cL_mixed 11 = .ok (.iload_n 2, 1) := by decide +kernel
theorem dL_mixed_12 : decode cL_mixed 12 = .ok (.bipush 15, 2) := by decide +kernel
theorem dL_mixed_14 : decode cL_mixed 14 = .ok (.iushr, 1) := by decide +kernel
theorem dL_mixed_15 : decode cL_mixed 15 = .ok (.ixor, 1) := by decide +kernel
theorem dL_mixed_16 : decode cL_mixed 16 = .ok (.ldc 44, 2) := by decide +kernel
theorem dL_mixed_18 : decode cL_mixed 18 = .ok (.imul, 1) := by decide +kernel
theorem dL_mixed_19 : decode cL_mixed 19 = .ok (.istore_n 2, 1) := by decide +kernel
theorem dL_mixed_20 : decode cL_mixed 20 = .ok (.iload_n 2, 1) := by decide +kernel
theorem dL_mixed_21 : decode cL_mixed 21 = .ok (.iload_n 2, 1) := by decide +kernel
theorem dL_mixed_22 : decode cL_mixed 22 = .ok (.bipush 16, 2) := by decide +kernel
theorem dL_mixed_24 : decode cL_mixed 24 = .ok (.iushr, 1) := by decide +kernel
theorem dL_mixed_25 : decode cL_mixed 25 = .ok (.ixor, 1) := by decide +kernel
theorem dL_mixed_26 : decode cL_mixed 26 = .ok (.ireturn, 1) := by decide +kernel
theorem dL_anyKind_0 : decode cL_anyKind 0 = .ok (.aload_n 0, 1) := by decide +kernel
theorem dL_anyKind_1 : decode cL_anyKind 1 = .ok (.iconst 4, 1) := by decide +kernel
theorem dL_anyKind_2 : decode cL_anyKind 2 = .ok (.invokevirtual 45, 3) := by decide +kernel
theorem dL_anyKind_5 : decode cL_anyKind 5 = .ok (.istore_n 1, 1) := by decide +kernel
theorem dL_anyKind_6 : decode cL_anyKind 6 = .ok (.iload_n 1, 1) := by decide +kernel
theorem dL_anyKind_7 : decode cL_anyKind 7 = .ok (.ifCond .ne 8, 3) := by decide +kernel
theorem dL_anyKind_10 : decode cL_anyKind 10 = .ok (.bipush 105, 2) := by decide +kernel
theorem dL_anyKind_12 : decode cL_anyKind 12 = .ok (.goto 25, 3) := by decide +kernel
theorem dL_anyKind_15 : decode cL_anyKind 15 = .ok (.iload_n 1, 1) := by decide +kernel
theorem dL_anyKind_16 : decode cL_anyKind 16 = .ok (.iconst 1, 1) := by decide +kernel
theorem dL_anyKind_17 : decode cL_anyKind 17 = .ok (.if_icmp .ne 8, 3) := by decide +kernel
theorem dL_anyKind_20 : decode cL_anyKind 20 = .ok (.bipush 108, 2) := by decide +kernel
theorem dL_anyKind_22 : decode cL_anyKind 22 = .ok (.goto 15, 3) := by decide +kernel
theorem dL_anyKind_25 : decode cL_anyKind 25 = .ok (.iload_n 1, 1) := by decide +kernel
theorem dL_anyKind_26 : decode cL_anyKind 26 = .ok (.iconst 2, 1) := by decide +kernel
theorem dL_anyKind_27 : decode cL_anyKind 27 = .ok (.if_icmp .ne 8, 3) := by decide +kernel
theorem dL_anyKind_30 : decode cL_anyKind 30 = .ok (.bipush 99, 2) := by decide +kernel
theorem dL_anyKind_32 : decode cL_anyKind 32 = .ok (.goto 5, 3) := by decide +kernel
theorem dL_anyKind_35 : decode cL_anyKind 35 = .ok (.bipush 115, 2) := by decide +kernel
theorem dL_anyKind_37 : decode cL_anyKind 37 = .ok (.ireturn, 1) := by decide +kernel
theorem dL_cut_0 : decode cL_cut 0 = .ok (.iload_n 0, 1) := by decide +kernel
theorem dL_cut_1 : decode cL_cut 1 = .ok (.bipush 105, 2) := by decide +kernel
theorem dL_cut_3 : decode cL_cut 3 = .ok (.if_icmp .ne 9, 3) := by decide +kernel
theorem dL_cut_6 : decode cL_cut 6 = .ok (.lload_n 1, 1) := by decide +kernel
theorem dL_cut_7 : decode cL_cut 7 = .ok (.l2i, 1) := by decide +kernel
theorem dL_cut_8 : decode cL_cut 8 = .ok (.i2l, 1) := by decide +kernel
theorem dL_cut_9 : decode cL_cut 9 = .ok (.goto 31, 3) := by decide +kernel
theorem dL_cut_12 : decode cL_cut 12 = .ok (.iload_n 0, 1) := by decide +kernel
theorem dL_cut_13 : decode cL_cut 13 = .ok (.bipush 99, 2) := by decide +kernel
theorem dL_cut_15 : decode cL_cut 15 = .ok (.if_icmp .ne 11, 3) := by decide +kernel
theorem dL_cut_18 : decode cL_cut 18 = .ok (.lload_n 1, 1) := by decide +kernel
theorem dL_cut_19 : decode cL_cut 19 = .ok (.ldc2_w 49, 3) := by decide +kernel
theorem dL_cut_22 : decode cL_cut 22 = .ok (.land, 1) := by decide +kernel
theorem dL_cut_23 : decode cL_cut 23 = .ok (.goto 17, 3) := by decide +kernel
theorem dL_cut_26 : decode cL_cut 26 = .ok (.iload_n 0, 1) := by decide +kernel
theorem dL_cut_27 : decode cL_cut 27 = .ok (.bipush 115, 2) := by decide +kernel
theorem dL_cut_29 : decode cL_cut 29 = .ok (.if_icmp .ne 10, 3) := by decide +kernel
theorem dL_cut_32 : decode cL_cut 32 = .ok (.lload_n 1, 1) := by decide +kernel
theorem dL_cut_33 : decode cL_cut 33 = .ok (.l2i, 1) := by decide +kernel
theorem dL_cut_34 : decode cL_cut 34 = .ok (.i2s, 1) := by decide +kernel
theorem dL_cut_35 : decode cL_cut 35 = .ok (.i2l, 1) := by decide +kernel
theorem dL_cut_36 : decode cL_cut 36 = .ok (.goto 4, 3) := by decide +kernel
theorem dL_cut_39 : decode cL_cut 39 = .ok (.lload_n 1, 1) := by decide +kernel
theorem dL_cut_40 : decode cL_cut 40 = .ok (.lreturn, 1) := by decide +kernel
theorem dL_isSeen_0 : decode cL_isSeen 0 = .ok (.aload_n 0, 1) := by decide +kernel
theorem dL_isSeen_1 : decode cL_isSeen 1 = .ok (.invokevirtual 51, 3) := by decide +kernel
theorem dL_isSeen_4 : decode cL_isSeen 4 = .ok (.istore_n 1, 1) := by decide +kernel
theorem dL_isSeen_5 : decode cL_isSeen 5 = .ok (.iconst 4, 1) := by decide +kernel
theorem dL_isSeen_6 : decode cL_isSeen 6 = .ok (.aload_n 0, 1) := by decide +kernel
theorem dL_isSeen_7 : decode cL_isSeen 7 = .ok (.bipush 20, 2) := by decide +kernel
theorem dL_isSeen_9 : decode cL_isSeen 9 = .ok (.invokevirtual 45, 3) := by decide +kernel
theorem dL_isSeen_12 : decode cL_isSeen 12 = .ok (.iadd, 1) := by decide +kernel
theorem dL_isSeen_13 : decode cL_isSeen 13 = .ok (.istore_n 2, 1) := by decide +kernel
theorem dL_isSeen_14 : decode cL_isSeen 14 = .ok (.aload_n 0, 1) := by decide +kernel
theorem dL_isSeen_15 : decode cL_isSeen 15 = .ok (.getfield 10, 3) := by decide +kernel
theorem dL_isSeen_18 : decode cL_isSeen 18 = .ok (.iconst 0, 1) := by decide +kernel
theorem dL_isSeen_19 : decode cL_isSeen 19 = .ok (.iload_n 1, 1) := by decide +kernel
theorem dL_isSeen_20 : decode cL_isSeen 20 = .ok (.iload_n 2, 1) := by decide +kernel
theorem dL_isSeen_21 : decode cL_isSeen 21 = .ok (.invokevirtual 55, 3) := by decide +kernel
theorem dL_isSeen_24 : decode cL_isSeen 24 = .ok (.pop, 1) := by decide +kernel
theorem dL_isSeen_25 : decode cL_isSeen 25 = .ok (.aload_n 0, 1) := by decide +kernel
theorem dL_isSeen_26 : decode cL_isSeen 26 = .ok (.getfield 10, 3) := by decide +kernel
theorem dL_isSeen_29 : decode cL_isSeen 29 = .ok (.iconst 0, 1) := by decide +kernel
theorem dL_isSeen_30 : decode cL_isSeen 30 = .ok (.iload_n 2, 1) := by decide +kernel
theorem dL_isSeen_31 : decode cL_isSeen 31 = .ok (.aload_n 0, 1) := by decide +kernel
theorem dL_isSeen_32 : decode cL_isSeen 32 = .ok (.bipush 100, 2) := by decide +kernel
theorem dL_isSeen_34 : decode cL_isSeen 34 = .ok (.invokevirtual 45, 3) := by decide +kernel
theorem dL_isSeen_37 : decode cL_isSeen 37 = .ok (.i2l, 1) := by decide +kernel
theorem dL_isSeen_38 : decode cL_isSeen 38 = .ok (.iconst 1, 1) := by decide +kernel
theorem dL_isSeen_39 : decode cL_isSeen 39 = .ok (.aload_n 0, 1) := by decide +kernel
theorem dL_isSeen_40 : decode cL_isSeen 40 = .ok (.iconst 5, 1) := by decide +kernel
theorem dL_isSeen_41 : decode cL_isSeen 41 = .ok (.invokevirtual 45, 3) := by decide +kernel
theorem dL_isSeen_44 : decode cL_isSeen 44 = .ok (.iadd, 1) := by decide +kernel
theorem dL_isSeen_45 : decode cL_isSeen 45 = .ok (.i2l, 1) := by decide +kernel
theorem dL_isSeen_46 : decode cL_isSeen 46 = .ok (.invokevirtual 59, 3) := by decide +kernel
theorem dL_isSeen_49 : decode cL_isSeen 49 = .ok (.iload_n 2, 1) := by decide +kernel
theorem dL_isSeen_50 : decode cL_isSeen 50 = .ok (.if_icmp .ne 19, 3) := by decide +kernel
theorem dL_isSeen_53 : decode cL_isSeen 53 = .ok (.aload_n 0, 1) := by decide +kernel
theorem dL_isSeen_54 : decode cL_isSeen 54 = .ok (.getfield 10, 3) := by decide +kernel
theorem dL_isSeen_57 : decode cL_isSeen 57 = .ok (.iconst 0, 1) := by decide +kernel
theorem dL_isSeen_58 : decode cL_isSeen 58 = .ok (.invokevirtual 63, 3) := by decide +kernel
theorem dL_isSeen_61 : decode cL_isSeen 61 = .ok (.iload_n 2, 1) := by decide +kernel
theorem dL_isSeen_62 : decode cL_isSeen 62 = .ok (.if_icmp .ne 7, 3) := by decide +kernel
theorem dL_isSeen_65 : decode cL_isSeen 65 = .ok (.iconst 1, 1) := by decide +kernel
theorem dL_isSeen_66 : decode cL_isSeen 66 = .ok (.goto 4, 3) := by decide +kernel
theorem dL_isSeen_69 : decode cL_isSeen 69 = .ok (.iconst 0, 1) := by decide +kernel
theorem dL_isSeen_70 : decode cL_isSeen 70 = .ok (.istore_n 3, 1) := by decide +kernel
theorem dL_isSeen_71 : decode cL_isSeen 71 = .ok (.aload_n 0, 1) := by decide +kernel
theorem dL_isSeen_72 : decode cL_isSeen 72 = .ok (.iload_n 2, 1) := by decide +kernel
theorem dL_isSeen_73 : decode cL_isSeen 73 = .ok (.invokevirtual 45, 3) := by decide +kernel
theorem dL_isSeen_76 : decode cL_isSeen 76 = .ok (.istore 4, 2) := by decide +kernel
theorem dL_isSeen_78 : decode cL_isSeen 78 = .ok (.iload_n 3, 1) := by decide +kernel
theorem dL_isSeen_79 : decode cL_isSeen 79 = .ok (.ifCond .eq 86, 3) := by decide +kernel
theorem dL_isSeen_82 : decode cL_isSeen 82 = .ok (.aload_n 0, 1) := by decide +kernel
theorem dL_isSeen_83 : decode cL_isSeen 83 = .ok (.getfield 10, 3) := by decide +kernel
theorem dL_isSeen_86 : decode cL_isSeen 86 = .ok (.iconst 0, 1) := by decide +kernel
theorem dL_isSeen_87 : decode cL_isSeen 87 = .ok (.iconst 1, 1) := by decide +kernel
theorem dL_isSeen_88 : decode cL_isSeen 88 = .ok (.invokevirtual 66, 3) := by decide +kernel
theorem dL_isSeen_91 : decode cL_isSeen 91 = .ok (.iload_n 2, 1) := by decide +kernel
theorem dL_isSeen_92 : decode cL_isSeen 92 = .ok (.if_icmp .ne 73, 3) := by decide +kernel
theorem dL_isSeen_95 : decode cL_isSeen 95 = .ok (.aload_n 0, 1) := by decide +kernel
theorem dL_isSeen_96 : decode cL_isSeen 96 = .ok (.getfield 10, 3) := by decide +kernel
theorem dL_isSeen_99 : decode cL_isSeen 99 = .ok (.iconst 0, 1) := by decide +kernel
theorem dL_isSeen_100 : decode cL_isSeen 100 = .ok (.iconst 2, 1) := by decide +kernel
theorem dL_isSeen_101 : decode cL_isSeen 101 = .ok (.invokevirtual 69, 3) := by decide +kernel
theorem dL_isSeen_104 : decode cL_isSeen 104 = .ok (.iload_n 2, 1) := by decide +kernel
theorem dL_isSeen_105 : decode cL_isSeen 105 = .ok (.if_icmp .ne 60, 3) := by decide +kernel
theorem dL_isSeen_108 : decode cL_isSeen 108 = .ok (.aload_n 0, 1) := by decide +kernel
theorem dL_isSeen_109 : decode cL_isSeen 109 = .ok (.getfield 10, 3) := by decide +kernel
theorem dL_isSeen_112 : decode cL_isSeen 112 = .ok (.iconst 1, 1) := by decide +kernel
theorem dL_isSeen_113 : decode cL_isSeen 113 = .ok (.iload 4, 2) := by decide +kernel
theorem dL_isSeen_115 : decode cL_isSeen 115 = .ok (.invokevirtual 72, 3) := by decide +kernel
theorem dL_isSeen_118 : decode cL_isSeen 118 = .ok (.ifCond .ne 47, 3) := by decide +kernel
theorem dL_isSeen_121 : decode cL_isSeen 121 = .ok (.aload_n 0, 1) := by decide +kernel
theorem dL_isSeen_122 : decode cL_isSeen 122 = .ok (.getfield 10, 3) := by decide +kernel
theorem dL_isSeen_125 : decode cL_isSeen 125 = .ok (.iconst 1, 1) := by decide +kernel
theorem dL_isSeen_126 : decode cL_isSeen 126 = .ok (.iconst 3, 1) := by decide +kernel
theorem dL_isSeen_127 : decode cL_isSeen 127 = .ok (.invokevirtual 75, 3) := by decide +kernel
theorem dL_isSeen_130 : decode cL_isSeen 130 = .ok (.iload_n 2, 1) := by decide +kernel
theorem dL_isSeen_131 : decode cL_isSeen 131 = .ok (.iload 4, 2) := by decide +kernel
theorem dL_isSeen_133 : decode cL_isSeen 133 = .ok (.isub, 1) := by decide +kernel
theorem dL_isSeen_134 : decode cL_isSeen 134 = .ok (.if_icmp .ne 31, 3) := by decide +kernel
theorem dL_isSeen_137 : decode cL_isSeen 137 = .ok (.aload_n 0, 1) := by decide +kernel
theorem dL_isSeen_138 : decode cL_isSeen 138 = .ok (.getfield 10, 3) := by decide +kernel
theorem dL_isSeen_141 : decode cL_isSeen 141 = .ok (.iconst 0, 1) := by decide +kernel
theorem dL_isSeen_142 : decode cL_isSeen 142 = .ok (.iload 4, 2) := by decide +kernel
theorem dL_isSeen_144 : decode cL_isSeen 144 = .ok (.iconst 2, 1) := by decide +kernel
theorem dL_isSeen_145 : decode cL_isSeen 145 = .ok (.idiv, 1) := by decide +kernel
theorem dL_isSeen_146 : decode cL_isSeen 146 = .ok (.iload_n 2, 1) := by decide +kernel
theorem dL_isSeen_147 : decode cL_isSeen 147 = .ok (.iload 4, 2) := by decide +kernel
theorem dL_isSeen_149 : decode cL_isSeen 149 = .ok (.isub, 1) := by decide +kernel
theorem dL_isSeen_150 : decode cL_isSeen 150 = .ok (.iconst 4, 1) := by decide +kernel
theorem dL_isSeen_151 : decode cL_isSeen 151 = .ok (.invokevirtual 78, 3) := by decide +kernel
theorem dL_isSeen_154 : decode cL_isSeen 154 = .ok (.iload_n 2, 1) := by decide +kernel
theorem dL_isSeen_155 : decode cL_isSeen 155 = .ok (.iload 4, 2) := by decide +kernel
theorem dL_isSeen_157 : decode cL_isSeen 157 = .ok (.isub, 1) := by decide +kernel
theorem dL_isSeen_158 : decode cL_isSeen 158 = .ok (.if_icmp .ne 7, 3) := by decide +kernel
theorem dL_isSeen_161 : decode cL_isSeen 161 = .ok (.iconst 1, 1) := by decide +kernel
theorem dL_isSeen_162 : decode cL_isSeen 162 = .ok (.goto 4, 3) := by decide +kernel
theorem dL_isSeen_165 : decode cL_isSeen 165 = .ok (.iconst 0, 1) := by decide +kernel
theorem dL_isSeen_166 : decode cL_isSeen 166 = .ok (.istore_n 3, 1) := by decide +kernel
theorem dL_isSeen_167 : decode cL_isSeen 167 = .ok (.aload_n 0, 1) := by decide +kernel
theorem dL_isSeen_168 : decode cL_isSeen 168 = .ok (.iload_n 2, 1) := by decide +kernel
theorem dL_isSeen_169 : decode cL_isSeen 169 = .ok (.invokevirtual 45, 3) := by decide +kernel
theorem dL_isSeen_172 : decode cL_isSeen 172 = .ok (.istore 5, 2) := by decide +kernel
theorem dL_isSeen_174 : decode cL_isSeen 174 = .ok (.aload_n 0, 1) := by decide +kernel
theorem dL_isSeen_175 : decode cL_isSeen 175 = .ok (.ldc 82, 2) := by decide +kernel
theorem dL_isSeen_177 : decode cL_isSeen 177 = .ok (.invokevirtual 45, 3) := by decide +kernel
theorem dL_isSeen_180 : decode cL_isSeen 180 = .ok (.i2l, 1) := by decide +kernel
theorem dL_isSeen_181 : decode cL_isSeen 181 = .ok (.ldc2_w 83, 3) := by decide +kernel
theorem dL_isSeen_184 : decode cL_isSeen 184 = .ok (.lmul, 1) := by decide +kernel
theorem dL_isSeen_185 : decode cL_isSeen 185 = .ok (.lstore 6, 2) := by decide +kernel
theorem dL_isSeen_187 : decode cL_isSeen 187 = .ok (.aload_n 0, 1) := by decide +kernel
theorem dL_isSeen_188 : decode cL_isSeen 188 = .ok (.getfield 10, 3) := by decide +kernel
theorem dL_isSeen_191 : decode cL_isSeen 191 = .ok (.iconst 0, 1) := by decide +kernel
theorem dL_isSeen_192 : decode cL_isSeen 192 = .ok (.iload 5, 2) := by decide +kernel
theorem dL_isSeen_194 : decode cL_isSeen 194 = .ok (.invokevirtual 85, 3) := by decide +kernel
theorem dL_isSeen_197 : decode cL_isSeen 197 = .ok (.lstore 8, 2) := by decide +kernel
theorem dL_isSeen_199 : decode cL_isSeen 199 = .ok (.iload_n 3, 1) := by decide +kernel
theorem dL_isSeen_200 : decode cL_isSeen 200 = .ok (.ifCond .eq 65, 3) := by decide +kernel
theorem dL_isSeen_203 : decode cL_isSeen 203 = .ok (.aload_n 0, 1) := by decide +kernel
theorem dL_isSeen_204 : decode cL_isSeen 204 = .ok (.getfield 10, 3) := by decide +kernel
theorem dL_isSeen_207 : decode cL_isSeen 207 = .ok (.iconst 1, 1) := by decide +kernel
theorem dL_isSeen_208 : decode cL_isSeen 208 = .ok (.iload 5, 2) := by decide +kernel
theorem dL_isSeen_210 : decode cL_isSeen 210 = .ok (.lload 6, 2) := by decide +kernel
theorem dL_isSeen_212 : decode cL_isSeen 212 = .ok (.invokevirtual 89, 3) := by decide +kernel
theorem dL_isSeen_215 : decode cL_isSeen 215 = .ok (.lload 8, 2) := by decide +kernel
theorem dL_isSeen_217 : decode cL_isSeen 217 = .ok (.lcmp, 1) := by decide +kernel
theorem dL_isSeen_218 : decode cL_isSeen 218 = .ok (.ifCond .ne 47, 3) := by decide +kernel
theorem dL_isSeen_221 : decode cL_isSeen 221 = .ok (.aload_n 0, 1) := by decide +kernel
theorem dL_isSeen_222 : decode cL_isSeen 222 = .ok (.getfield 10, 3) := by decide +kernel
theorem dL_isSeen_225 : decode cL_isSeen 225 = .ok (.iconst 0, 1) := by decide +kernel
theorem dL_isSeen_226 : decode cL_isSeen 226 = .ok (.iload 5, 2) := by decide +kernel
theorem dL_isSeen_228 : decode cL_isSeen 228 = .ok (.invokevirtual 85, 3) := by decide +kernel
theorem dL_isSeen_231 : decode cL_isSeen 231 = .ok (.iload_n 1, 1) := by decide +kernel
theorem dL_isSeen_232 : decode cL_isSeen 232 = .ok (.lload 6, 2) := by decide +kernel
theorem dL_isSeen_234 : decode cL_isSeen 234 = .ok (.invokestatic 93, 3) := by decide +kernel
theorem dL_isSeen_237 : decode cL_isSeen 237 = .ok (.lcmp, 1) := by decide +kernel
theorem dL_isSeen_238 : decode cL_isSeen 238 = .ok (.ifCond .ne 27, 3) := by decide +kernel
theorem dL_isSeen_241 : decode cL_isSeen 241 = .ok (.aload_n 0, 1) := by decide +kernel
theorem dL_isSeen_242 : decode cL_isSeen 242 = .ok (.getfield 10, 3) := by decide +kernel
theorem dL_isSeen_245 : decode cL_isSeen 245 = .ok (.iconst 2, 1) := by decide +kernel
theorem dL_isSeen_246 : decode cL_isSeen 246 = .ok (.iload 5, 2) := by decide +kernel
theorem dL_isSeen_248 : decode cL_isSeen 248 = .ok (.invokevirtual 85, 3) := by decide +kernel
theorem dL_isSeen_251 : decode cL_isSeen 251 = .ok (.iload_n 1, 1) := by decide +kernel
theorem dL_isSeen_252 : decode cL_isSeen 252 = .ok (.lload 6, 2) := by decide +kernel
theorem dL_isSeen_254 : decode cL_isSeen 254 = .ok (.invokestatic 93, 3) := by decide +kernel
theorem dL_isSeen_257 : decode cL_isSeen 257 = .ok (.lcmp, 1) := by decide +kernel
theorem dL_isSeen_258 : decode cL_isSeen 258 = .ok (.ifCond .ne 7, 3) := by decide +kernel
theorem dL_isSeen_261 : decode cL_isSeen 261 = .ok (.iconst 1, 1) := by decide +kernel
theorem dL_isSeen_262 : decode cL_isSeen 262 = .ok (.goto 4, 3) := by decide +kernel
theorem dL_isSeen_265 : decode cL_isSeen 265 = .ok (.iconst 0, 1) := by decide +kernel
theorem dL_isSeen_266 : decode cL_isSeen 266 = .ok (.istore_n 3, 1) := by decide +kernel
theorem dL_isSeen_267 : decode cL_isSeen 267 = .ok (.iload_n 3, 1) := by decide +kernel
theorem dL_isSeen_268 : decode cL_isSeen 268 = .ok (.ifCond .eq 85, 3) := by decide +kernel
theorem dL_isSeen_271 : decode cL_isSeen 271 = .ok (.iload 5, 2) := by decide +kernel
theorem dL_isSeen_273 : decode cL_isSeen 273 = .ok (.iload 4, 2) := by decide +kernel
theorem dL_isSeen_275 : decode cL_isSeen 275 = .ok (.if_icmp .lt 26, 3) := by decide +kernel
theorem dL_isSeen_278 : decode cL_isSeen 278 = .ok (.aload_n 0, 1) := by decide +kernel
theorem dL_isSeen_279 : decode cL_isSeen 279 = .ok (.getfield 10, 3) := by decide +kernel
theorem dL_isSeen_282 : decode cL_isSeen 282 = .ok (.iconst 3, 1) := by decide +kernel
theorem dL_isSeen_283 : decode cL_isSeen 283 = .ok (.iload 5, 2) := by decide +kernel
theorem dL_isSeen_285 : decode cL_isSeen 285 = .ok (.iload 4, 2) := by decide +kernel
theorem dL_isSeen_287 : decode cL_isSeen 287 = .ok (.isub, 1) := by decide +kernel
theorem dL_isSeen_288 : decode cL_isSeen 288 = .ok (.invokevirtual 85, 3) := by decide +kernel
theorem dL_isSeen_291 : decode cL_isSeen 291 = .ok (.iload_n 1, 1) := by decide +kernel
theorem dL_isSeen_292 : decode cL_isSeen 292 = .ok (.lload 6, 2) := by decide +kernel
theorem dL_isSeen_294 : decode cL_isSeen 294 = .ok (.invokestatic 93, 3) := by decide +kernel
theorem dL_isSeen_297 : decode cL_isSeen 297 = .ok (.lcmp, 1) := by decide +kernel
theorem dL_isSeen_298 : decode cL_isSeen 298 = .ok (.ifCond .ne 55, 3) := by decide +kernel
theorem dL_isSeen_301 : decode cL_isSeen 301 = .ok (.iload 5, 2) := by decide +kernel
theorem dL_isSeen_303 : decode cL_isSeen 303 = .ok (.iload 4, 2) := by decide +kernel
theorem dL_isSeen_305 : decode cL_isSeen 305 = .ok (.iconst 2, 1) := by decide +kernel
theorem dL_isSeen_306 : decode cL_isSeen 306 = .ok (.idiv, 1) := by decide +kernel
theorem dL_isSeen_307 : decode cL_isSeen 307 = .ok (.if_icmp .lt 42, 3) := by decide +kernel
theorem dL_isSeen_310 : decode cL_isSeen 310 = .ok (.iload 5, 2) := by decide +kernel
theorem dL_isSeen_312 : decode cL_isSeen 312 = .ok (.iload 4, 2) := by decide +kernel
theorem dL_isSeen_314 : decode cL_isSeen 314 = .ok (.iconst 2, 1) := by decide +kernel
theorem dL_isSeen_315 : decode cL_isSeen 315 = .ok (.idiv, 1) := by decide +kernel
theorem dL_isSeen_316 : decode cL_isSeen 316 = .ok (.iload_n 2, 1) := by decide +kernel
theorem dL_isSeen_317 : decode cL_isSeen 317 = .ok (.iadd, 1) := by decide +kernel
theorem dL_isSeen_318 : decode cL_isSeen 318 = .ok (.iload 4, 2) := by decide +kernel
theorem dL_isSeen_320 : decode cL_isSeen 320 = .ok (.isub, 1) := by decide +kernel
theorem dL_isSeen_321 : decode cL_isSeen 321 = .ok (.if_icmp .ge 28, 3) := by decide +kernel
theorem dL_isSeen_324 : decode cL_isSeen 324 = .ok (.aload_n 0, 1) := by decide +kernel
theorem dL_isSeen_325 : decode cL_isSeen 325 = .ok (.getfield 10, 3) := by decide +kernel
theorem dL_isSeen_328 : decode cL_isSeen 328 = .ok (.iconst 4, 1) := by decide +kernel
theorem dL_isSeen_329 : decode cL_isSeen 329 = .ok (.iload 5, 2) := by decide +kernel
theorem dL_isSeen_331 : decode cL_isSeen 331 = .ok (.iload 4, 2) := by decide +kernel
theorem dL_isSeen_333 : decode cL_isSeen 333 = .ok (.iconst 2, 1) := by decide +kernel
theorem dL_isSeen_334 : decode cL_isSeen 334 = .ok (.idiv, 1) := by decide +kernel
theorem dL_isSeen_335 : decode cL_isSeen 335 = .ok (.isub, 1) := by decide +kernel
theorem dL_isSeen_336 : decode cL_isSeen 336 = .ok (.invokevirtual 85, 3) := by decide +kernel
theorem dL_isSeen_339 : decode cL_isSeen 339 = .ok (.iload_n 1, 1) := by decide +kernel
theorem dL_isSeen_340 : decode cL_isSeen 340 = .ok (.lload 6, 2) := by decide +kernel
theorem dL_isSeen_342 : decode cL_isSeen 342 = .ok (.invokestatic 93, 3) := by decide +kernel
theorem dL_isSeen_345 : decode cL_isSeen 345 = .ok (.lcmp, 1) := by decide +kernel
theorem dL_isSeen_346 : decode cL_isSeen 346 = .ok (.ifCond .ne 7, 3) := by decide +kernel
theorem dL_isSeen_349 : decode cL_isSeen 349 = .ok (.iconst 1, 1) := by decide +kernel
theorem dL_isSeen_350 : decode cL_isSeen 350 = .ok (.goto 4, 3) := by decide +kernel
theorem dL_isSeen_353 : decode cL_isSeen 353 = .ok (.iconst 0, 1) := by decide +kernel
theorem dL_isSeen_354 : decode cL_isSeen 354 = .ok (.istore_n 3, 1) := by decide +kernel
theorem dL_isSeen_355 : decode cL_isSeen 355 = .ok (.iconst 0, 1) := by decide +kernel
theorem dL_isSeen_356 : decode cL_isSeen 356 = .ok (.istore 10, 2) := by decide +kernel
theorem dL_isSeen_358 : decode cL_isSeen 358 = .ok (.iload 10, 2) := by decide +kernel
theorem dL_isSeen_360 : decode cL_isSeen 360 = .ok (.iload_n 2, 1) := by decide +kernel
theorem dL_isSeen_361 : decode cL_isSeen 361 = .ok (.if_icmp .ge 77, 3) := by decide +kernel
theorem dL_isSeen_364 : decode cL_isSeen 364 = .ok (.iload_n 3, 1) := by decide +kernel
theorem dL_isSeen_365 : decode cL_isSeen 365 = .ok (.ifCond .eq 73, 3) := by decide +kernel
theorem dL_isSeen_368 : decode cL_isSeen 368 = .ok (.aload_n 0, 1) := by decide +kernel
theorem dL_isSeen_369 : decode cL_isSeen 369 = .ok (.getfield 10, 3) := by decide +kernel
theorem dL_isSeen_372 : decode cL_isSeen 372 = .ok (.iconst 0, 1) := by decide +kernel
theorem dL_isSeen_373 : decode cL_isSeen 373 = .ok (.iload 10, 2) := by decide +kernel
theorem dL_isSeen_375 : decode cL_isSeen 375 = .ok (.invokevirtual 85, 3) := by decide +kernel
theorem dL_isSeen_378 : decode cL_isSeen 378 = .ok (.aload_n 0, 1) := by decide +kernel
theorem dL_isSeen_379 : decode cL_isSeen 379 = .ok (.getfield 10, 3) := by decide +kernel
theorem dL_isSeen_382 : decode cL_isSeen 382 = .ok (.iconst 2, 1) := by decide +kernel
theorem dL_isSeen_383 : decode cL_isSeen 383 = .ok (.iload 10, 2) := by decide +kernel
theorem dL_isSeen_385 : decode cL_isSeen 385 = .ok (.invokevirtual 85, 3) := by decide +kernel
theorem dL_isSeen_388 : decode cL_isSeen 388 = .ok (.lcmp, 1) := by decide +kernel
theorem dL_isSeen_389 : decode cL_isSeen 389 = .ok (.ifCond .ne 41, 3) := by decide +kernel
theorem dL_isSeen_392 : decode cL_isSeen 392 = .ok (.iload 10, 2) := by decide +kernel
theorem dL_isSeen_394 : decode cL_isSeen 394 = .ok (.iload 4, 2) := by decide +kernel
theorem dL_isSeen_396 : decode cL_isSeen 396 = .ok (.if_icmp .lt 30, 3) := by decide +kernel
theorem dL_isSeen_399 : decode cL_isSeen 399 = .ok (.aload_n 0, 1) := by decide +kernel
theorem dL_isSeen_400 : decode cL_isSeen 400 = .ok (.getfield 10, 3) := by decide +kernel
theorem dL_isSeen_403 : decode cL_isSeen 403 = .ok (.iconst 0, 1) := by decide +kernel
theorem dL_isSeen_404 : decode cL_isSeen 404 = .ok (.iload 10, 2) := by decide +kernel
theorem dL_isSeen_406 : decode cL_isSeen 406 = .ok (.invokevirtual 85, 3) := by decide +kernel
theorem dL_isSeen_409 : decode cL_isSeen 409 = .ok (.aload_n 0, 1) := by decide +kernel
theorem dL_isSeen_410 : decode cL_isSeen 410 = .ok (.getfield 10, 3) := by decide +kernel
theorem dL_isSeen_413 : decode cL_isSeen 413 = .ok (.iconst 3, 1) := by decide +kernel
theorem dL_isSeen_414 : decode cL_isSeen 414 = .ok (.iload 10, 2) := by decide +kernel
theorem dL_isSeen_416 : decode cL_isSeen 416 = .ok (.iload 4, 2) := by decide +kernel
theorem dL_isSeen_418 : decode cL_isSeen 418 = .ok (.isub, 1) := by decide +kernel
theorem dL_isSeen_419 : decode cL_isSeen 419 = .ok (.invokevirtual 85, 3) := by decide +kernel
theorem dL_isSeen_422 : decode cL_isSeen 422 = .ok (.lcmp, 1) := by decide +kernel
theorem dL_isSeen_423 : decode cL_isSeen 423 = .ok (.ifCond .ne 7, 3) := by decide +kernel
theorem dL_isSeen_426 : decode cL_isSeen 426 = .ok (.iconst 1, 1) := by decide +kernel
theorem dL_isSeen_427 : decode cL_isSeen 427 = .ok (.goto 4, 3) := by decide +kernel
theorem dL_isSeen_430 : decode cL_isSeen 430 = .ok (.iconst 0, 1) := by decide +kernel
theorem dL_isSeen_431 : decode cL_isSeen 431 = .ok (.istore_n 3, 1) := by decide +kernel
theorem dL_isSeen_432 : decode cL_isSeen 432 = .ok (.iinc 10 1, 3) := by decide +kernel
theorem dL_isSeen_435 : decode cL_isSeen 435 = .ok (.goto (-77), 3) := by decide +kernel
theorem dL_isSeen_438 : decode cL_isSeen 438 = .ok (.iload_n 3, 1) := by decide +kernel
theorem dL_isSeen_439 : decode cL_isSeen 439 = .ok (.ifCond .eq 47, 3) := by decide +kernel
theorem dL_isSeen_442 : decode cL_isSeen 442 = .ok (.aload_n 0, 1) := by decide +kernel
theorem dL_isSeen_443 : decode cL_isSeen 443 = .ok (.iconst 2, 1) := by decide +kernel
theorem dL_isSeen_444 : decode cL_isSeen 444 = .ok (.invokevirtual 97, 3) := by decide +kernel
theorem dL_isSeen_447 : decode cL_isSeen 447 = .ok (.ifCond .eq 39, 3) := by decide +kernel
theorem dL_isSeen_450 : decode cL_isSeen 450 = .ok (.aload_n 0, 1) := by decide +kernel
theorem dL_isSeen_451 : decode cL_isSeen 451 = .ok (.getfield 10, 3) := by decide +kernel
theorem dL_isSeen_454 : decode cL_isSeen 454 = .ok (.iconst 2, 1) := by decide +kernel
theorem dL_isSeen_455 : decode cL_isSeen 455 = .ok (.invokevirtual 101, 3) := by decide +kernel
theorem dL_isSeen_458 : decode cL_isSeen 458 = .ok (.ifCond .eq 28, 3) := by decide +kernel
theorem dL_isSeen_461 : decode cL_isSeen 461 = .ok (.aload_n 0, 1) := by decide +kernel
theorem dL_isSeen_462 : decode cL_isSeen 462 = .ok (.getfield 10, 3) := by decide +kernel
theorem dL_isSeen_465 : decode cL_isSeen 465 = .ok (.iconst 2, 1) := by decide +kernel
theorem dL_isSeen_466 : decode cL_isSeen 466 = .ok (.iconst 5, 1) := by decide +kernel
theorem dL_isSeen_467 : decode cL_isSeen 467 = .ok (.invokevirtual 75, 3) := by decide +kernel
theorem dL_isSeen_470 : decode cL_isSeen 470 = .ok (.iload_n 2, 1) := by decide +kernel
theorem dL_isSeen_471 : decode cL_isSeen 471 = .ok (.if_icmp .ne 15, 3) := by decide +kernel
theorem dL_isSeen_474 : decode cL_isSeen 474 = .ok (.aload_n 0, 1) := by decide +kernel
theorem dL_isSeen_475 : decode cL_isSeen 475 = .ok (.iconst 5, 1) := by decide +kernel
theorem dL_isSeen_476 : decode cL_isSeen 476 = .ok (.invokevirtual 97, 3) := by decide +kernel
theorem dL_isSeen_479 : decode cL_isSeen 479 = .ok (.ifCond .eq 7, 3) := by decide +kernel
theorem dL_isSeen_482 : decode cL_isSeen 482 = .ok (.iconst 1, 1) := by decide +kernel
theorem dL_isSeen_483 : decode cL_isSeen 483 = .ok (.goto 4, 3) := by decide +kernel
theorem dL_isSeen_486 : decode cL_isSeen 486 = .ok (.iconst 0, 1) := by decide +kernel
theorem dL_isSeen_487 : decode cL_isSeen 487 = .ok (.ireturn, 1) := by decide +kernel
theorem dL_isRefused_0 : decode cL_isRefused 0 = .ok (.aload_n 0, 1) := by decide +kernel
theorem dL_isRefused_1 : decode cL_isRefused 1 = .ok (.getfield 10, 3) := by decide +kernel
theorem dL_isRefused_4 : decode cL_isRefused 4 = .ok (.invokevirtual 104, 3) := by decide +kernel
theorem dL_isRefused_7 : decode cL_isRefused 7 = .ok (.lstore_n 2, 1) := by decide +kernel
theorem dL_isRefused_8 : decode cL_isRefused 8 = .ok (.iconst 0, 1) := by decide +kernel
theorem dL_isRefused_9 : decode cL_isRefused 9 = .ok (.istore 4, 2) := by decide +kernel
theorem dL_isRefused_11 : decode cL_isRefused 11 = .ok (.aload_n 0, 1) := by decide +kernel
theorem dL_isRefused_12 : decode cL_isRefused 12 = .ok (.getfield 10, 3) := by decide +kernel
theorem dL_isRefused_15 : decode cL_isRefused 15 = .ok (.iload_n 1, 1) := by decide +kernel
theorem dL_isRefused_16 : decode cL_isRefused 16 = .ok (.lconst 1, 1) := by decide +kernel
theorem dL_isRefused_17 : decode cL_isRefused 17 = .ok (.invokevirtual 108, 3) := by decide +kernel
theorem dL_isRefused_20 : decode cL_isRefused 20 = .ok (.istore 5, 2) := by decide +kernel
theorem dL_isRefused_22 : decode cL_isRefused 22 = .ok (.goto 8, 3) := by decide +kernel
theorem dL_isRefused_25 : decode cL_isRefused 25 = .ok (.astore 5, 2) := by decide +kernel
theorem dL_isRefused_27 : decode cL_isRefused 27 = .ok (.iconst 1, 1) := by decide +kernel
theorem dL_isRefused_28 : decode cL_isRefused 28 = .ok (.istore 4, 2) := by decide +kernel
theorem dL_isRefused_30 : decode cL_isRefused 30 = .ok (.iload 4, 2) := by decide +kernel
theorem dL_isRefused_32 : decode cL_isRefused 32 = .ok (.ifCond .eq 19, 3) := by decide +kernel
theorem dL_isRefused_35 : decode cL_isRefused 35 = .ok (.aload_n 0, 1) := by decide +kernel
theorem dL_isRefused_36 : decode cL_isRefused 36 = .ok (.getfield 10, 3) := by decide +kernel
theorem dL_isRefused_39 : decode cL_isRefused 39 = .ok (.invokevirtual 104, 3) := by decide +kernel
theorem dL_isRefused_42 : decode cL_isRefused 42 = .ok (.lload_n 2, 1) := by decide +kernel
theorem dL_isRefused_43 : decode cL_isRefused 43 = .ok (.lcmp, 1) := by decide +kernel
theorem dL_isRefused_44 : decode cL_isRefused 44 = .ok (.ifCond .ne 7, 3) := by decide +kernel
theorem dL_isRefused_47 : decode cL_isRefused 47 = .ok (.iconst 1, 1) := by decide +kernel
theorem dL_isRefused_48 : decode cL_isRefused 48 = .ok (.goto 4, 3) := by decide +kernel
theorem dL_isRefused_51 : decode cL_isRefused 51 = .ok (.iconst 0, 1) := by decide +kernel
theorem dL_isRefused_52 : decode cL_isRefused 52 = .ok (.ireturn, 1) := by decide +kernel
theorem dL_isKept_0 : decode cL_isKept 0 = .ok (.aload_n 0, 1) := by decide +kernel
theorem dL_isKept_1 : decode cL_isKept 1 = .ok (.invokevirtual 51, 3) := by decide +kernel
theorem dL_isKept_4 : decode cL_isKept 4 = .ok (.istore_n 1, 1) := by decide +kernel
theorem dL_isKept_5 : decode cL_isKept 5 = .ok (.iconst 5, 1) := by decide +kernel
theorem dL_isKept_6 : decode cL_isKept 6 = .ok (.aload_n 0, 1) := by decide +kernel
theorem dL_isKept_7 : decode cL_isKept 7 = .ok (.bipush 20, 2) := by decide +kernel
theorem dL_isKept_9 : decode cL_isKept 9 = .ok (.invokevirtual 45, 3) := by decide +kernel
theorem dL_isKept_12 : decode cL_isKept 12 = .ok (.iadd, 1) := by decide +kernel
theorem dL_isKept_13 : decode cL_isKept 13 = .ok (.istore_n 2, 1) := by decide +kernel
theorem dL_isKept_14 : decode cL_isKept 14 = .ok (.aload_n 0, 1) := by decide +kernel
theorem dL_isKept_15 : decode cL_isKept 15 = .ok (.getfield 10, 3) := by decide +kernel
theorem dL_isKept_18 : decode cL_isKept 18 = .ok (.bipush 6, 2) := by decide +kernel
theorem dL_isKept_20 : decode cL_isKept 20 = .ok (.iload_n 1, 1) := by decide +kernel
theorem dL_isKept_21 : decode cL_isKept 21 = .ok (.iload_n 2, 1) := by decide +kernel
theorem dL_isKept_22 : decode cL_isKept 22 = .ok (.invokevirtual 55, 3) := by decide +kernel
theorem dL_isKept_25 : decode cL_isKept 25 = .ok (.pop, 1) := by decide +kernel
theorem dL_isKept_26 : decode cL_isKept 26 = .ok (.iconst 1, 1) := by decide +kernel
theorem dL_isKept_27 : decode cL_isKept 27 = .ok (.aload_n 0, 1) := by decide +kernel
theorem dL_isKept_28 : decode cL_isKept 28 = .ok (.iload_n 2, 1) := by decide +kernel
theorem dL_isKept_29 : decode cL_isKept 29 = .ok (.invokevirtual 45, 3) := by decide +kernel
theorem dL_isKept_32 : decode cL_isKept 32 = .ok (.iadd, 1) := by decide +kernel
theorem dL_isKept_33 : decode cL_isKept 33 = .ok (.istore_n 3, 1) := by decide +kernel
theorem dL_isKept_34 : decode cL_isKept 34 = .ok (.aload_n 0, 1) := by decide +kernel
theorem dL_isKept_35 : decode cL_isKept 35 = .ok (.sipush 1000, 3) := by decide +kernel
theorem dL_isKept_38 : decode cL_isKept 38 = .ok (.invokevirtual 45, 3) := by decide +kernel
theorem dL_isKept_41 : decode cL_isKept 41 = .ok (.i2l, 1) := by decide +kernel
theorem dL_isKept_42 : decode cL_isKept 42 = .ok (.lstore 4, 2) := by decide +kernel
theorem dL_isKept_44 : decode cL_isKept 44 = .ok (.iconst 1, 1) := by decide +kernel
theorem dL_isKept_45 : decode cL_isKept 45 = .ok (.istore 6, 2) := by decide +kernel
theorem dL_isKept_47 : decode cL_isKept 47 = .ok (.iconst 0, 1) := by decide +kernel
theorem dL_isKept_48 : decode cL_isKept 48 = .ok (.istore 7, 2) := by decide +kernel
theorem dL_isKept_50 : decode cL_isKept 50 = .ok (.iload 7, 2) := by decide +kernel
theorem dL_isKept_52 : decode cL_isKept 52 = .ok (.iload_n 3, 1) := by decide +kernel
theorem dL_isKept_53 : decode cL_isKept 53 = .ok (.if_icmp .ge 43, 3) := by decide +kernel
theorem dL_isKept_56 : decode cL_isKept 56 = .ok (.iload 6, 2) := by decide +kernel
theorem dL_isKept_58 : decode cL_isKept 58 = .ok (.ifCond .eq 38, 3) := by decide +kernel
theorem dL_isKept_61 : decode cL_isKept 61 = .ok (.aload_n 0, 1) := by decide +kernel
theorem dL_isKept_62 : decode cL_isKept 62 = .ok (.getfield 10, 3) := by decide +kernel
theorem dL_isKept_65 : decode cL_isKept 65 = .ok (.bipush 6, 2) := by decide +kernel
theorem dL_isKept_67 : decode cL_isKept 67 = .ok (.lload 4, 2) := by decide +kernel
theorem dL_isKept_69 : decode cL_isKept 69 = .ok (.iload 7, 2) := by decide +kernel
theorem dL_isKept_71 : decode cL_isKept 71 = .ok (.i2l, 1) := by decide +kernel
theorem dL_isKept_72 : decode cL_isKept 72 = .ok (.ladd, 1) := by decide +kernel
theorem dL_isKept_73 : decode cL_isKept 73 = .ok (.invokevirtual 108, 3) := by decide +kernel
theorem dL_isKept_76 : decode cL_isKept 76 = .ok (.iload 7, 2) := by decide +kernel
theorem dL_isKept_78 : decode cL_isKept 78 = .ok (.iconst 1, 1) := by decide +kernel
theorem dL_isKept_79 : decode cL_isKept 79 = .ok (.iadd, 1) := by decide +kernel
theorem dL_isKept_80 : decode cL_isKept 80 = .ok (.if_icmp .ne 7, 3) := by decide +kernel
theorem dL_isKept_83 : decode cL_isKept 83 = .ok (.iconst 1, 1) := by decide +kernel
theorem dL_isKept_84 : decode cL_isKept 84 = .ok (.goto 4, 3) := by decide +kernel
