/-! decoded rows -/
theorem d_M_init_0 : decode b_M_init 0 = .ok (.aload_n 0, 1) := by decide +kernel
theorem d_M_init_1 : decode b_M_init 1 = .ok (.invokespecial 1, 3) := by decide +kernel
theorem d_M_init_4 : decode b_M_init 4 = .ok (.aload_n 0, 1) := by decide +kernel
theorem d_M_init_5 : decode b_M_init 5 = .ok (.bipush 60, 2) := by decide +kernel
theorem d_M_init_7 : decode b_M_init 7 = .ok (.newarray .int, 2) := by decide +kernel
theorem d_M_init_9 : decode b_M_init 9 = .ok (.putfield 7, 3) := by decide +kernel
theorem d_M_init_12 : decode b_M_init 12 = .ok (.aload_n 0, 1) := by decide +kernel
theorem d_M_init_13 : decode b_M_init 13 = .ok (.bipush 60, 2) := by decide +kernel
theorem d_M_init_15 : decode b_M_init 15 = .ok (.newarray .int, 2) := by decide +kernel
theorem d_M_init_17 : decode b_M_init 17 = .ok (.putfield 13, 3) := by decide +kernel
theorem d_M_init_20 : decode b_M_init 20 = .ok (.aload_n 0, 1) := by decide +kernel
theorem d_M_init_21 : decode b_M_init 21 = .ok (.sipush 180, 3) := by decide +kernel
theorem d_M_init_24 : decode b_M_init 24 = .ok (.newarray .int, 2) := by decide +kernel
theorem d_M_init_26 : decode b_M_init 26 = .ok (.putfield 16, 3) := by decide +kernel
theorem d_M_init_29 : decode b_M_init 29 = .ok (.aload_n 0, 1) := by decide +kernel
theorem d_M_init_30 : decode b_M_init 30 = .ok (.bipush 60, 2) := by decide +kernel
theorem d_M_init_32 : decode b_M_init 32 = .ok (.newarray .int, 2) := by decide +kernel
theorem d_M_init_34 : decode b_M_init 34 = .ok (.putfield 19, 3) := by decide +kernel
theorem d_M_init_37 : decode b_M_init 37 = .ok (.aload_n 0, 1) := by decide +kernel
theorem d_M_init_38 : decode b_M_init 38 = .ok (.bipush 60, 2) := by decide +kernel
theorem d_M_init_40 : decode b_M_init 40 = .ok (.newarray .boolean, 2) := by decide +kernel
theorem d_M_init_42 : decode b_M_init 42 = .ok (.putfield 22, 3) := by decide +kernel
theorem d_M_init_45 : decode b_M_init 45 = .ok (.aload_n 0, 1) := by decide +kernel
theorem d_M_init_46 : decode b_M_init 46 = .ok (.bipush 60, 2) := by decide +kernel
theorem d_M_init_48 : decode b_M_init 48 = .ok (.newarray .int, 2) := by decide +kernel
theorem d_M_init_50 : decode b_M_init 50 = .ok (.putfield 26, 3) := by decide +kernel
theorem d_M_init_53 : decode b_M_init 53 = .ok (.aload_n 0, 1) := by decide +kernel
theorem d_M_init_54 : decode b_M_init 54 = .ok (.sipush 180, 3) := by decide +kernel
theorem d_M_init_57 : decode b_M_init 57 = .ok (.newarray .long, 2) := by decide +kernel
theorem d_M_init_59 : decode b_M_init 59 = .ok (.putfield 29, 3) := by decide +kernel
theorem d_M_init_62 : decode b_M_init 62 = .ok (.aload_n 0, 1) := by decide +kernel
theorem d_M_init_63 : decode b_M_init 63 = .ok (.bipush 8, 2) := by decide +kernel
theorem d_M_init_65 : decode b_M_init 65 = .ok (.newarray .int, 2) := by decide +kernel
theorem d_M_init_67 : decode b_M_init 67 = .ok (.putfield 33, 3) := by decide +kernel
theorem d_M_init_70 : decode b_M_init 70 = .ok (.aload_n 0, 1) := by decide +kernel
theorem d_M_init_71 : decode b_M_init 71 = .ok (.bipush 32, 2) := by decide +kernel
theorem d_M_init_73 : decode b_M_init 73 = .ok (.newarray .int, 2) := by decide +kernel
theorem d_M_init_75 : decode b_M_init 75 = .ok (.putfield 36, 3) := by decide +kernel
theorem d_M_init_78 : decode b_M_init 78 = .ok (.aload_n 0, 1) := by decide +kernel
theorem d_M_init_79 : decode b_M_init 79 = .ok (.iconst (-1), 1) := by decide +kernel
theorem d_M_init_80 : decode b_M_init 80 = .ok (.putfield 39, 3) := by decide +kernel
theorem d_M_init_83 : decode b_M_init 83 = .ok (.aload_n 0, 1) := by decide +kernel
theorem d_M_init_84 : decode b_M_init 84 = .ok (.bipush 16, 2) := by decide +kernel
theorem d_M_init_86 : decode b_M_init 86 = .ok (.newarray .int, 2) := by decide +kernel
theorem d_M_init_88 : decode b_M_init 88 = .ok (.putfield 43, 3) := by decide +kernel
theorem d_M_init_91 : decode b_M_init 91 = .ok (.return_, 1) := by decide +kernel
theorem d_M_within_0 : decode b_M_within 0 = .ok (.iload_n 0, 1) := by decide +kernel
theorem d_M_within_1 : decode b_M_within 1 = .ok (.iload_n 1, 1) := by decide +kernel
theorem d_M_within_2 : decode b_M_within 2 = .ok (.if_icmp .lt 12, 3) := by decide +kernel
theorem d_M_within_5 : decode b_M_within 5 = .ok (.iload_n 0, 1) := by decide +kernel
theorem d_M_within_6 : decode b_M_within 6 = .ok (.iload_n 2, 1) := by decide +kernel
theorem d_M_within_7 : decode b_M_within 7 = .ok (.if_icmp .gt 7, 3) := by decide +kernel
theorem d_M_within_10 : decode b_M_within 10 = .ok (.iconst 1, 1) := by decide +kernel
theorem d_M_within_11 : decode b_M_within 11 = .ok (.goto 4, 3) := by decide +kernel
theorem d_M_within_14 : decode b_M_within 14 = .ok (.iconst 0, 1) := by decide +kernel
theorem d_M_within_15 : decode b_M_within 15 = .ok (.ireturn, 1) := by decide +kernel
theorem d_M_is_0 : decode b_M_is 0 = .ok (.iload_n 1, 1) := by decide +kernel
theorem d_M_is_1 : decode b_M_is 1 = .ok (.iconst 0, 1) := by decide +kernel
theorem d_M_is_2 : decode b_M_is 2 = .ok (.aload_n 0, 1) := by decide +kernel
theorem d_M_is_3 : decode b_M_is 3 = .ok (.getfield 46, 3) := by decide +kernel
theorem d_M_is_6 : decode b_M_is 6 = .ok (.iconst 1, 1) := by decide +kernel
theorem d_M_is_7 : decode b_M_is 7 = .ok (.isub, 1) := by decide +kernel
theorem d_M_is_8 : decode b_M_is 8 = .ok (.invokestatic 49, 3) := by decide +kernel
theorem d_M_is_11 : decode b_M_is 11 = .ok (.ireturn, 1) := by decide +kernel
theorem d_M_make_0 : decode b_M_make 0 = .ok (.aload_n 0, 1) := by decide +kernel
theorem d_M_make_1 : decode b_M_make 1 = .ok (.getfield 46, 3) := by decide +kernel
theorem d_M_make_4 : decode b_M_make 4 = .ok (.istore 7, 2) := by decide +kernel
theorem d_M_make_6 : decode b_M_make 6 = .ok (.aload_n 0, 1) := by decide +kernel
theorem d_M_make_7 : decode b_M_make 7 = .ok (.dup, 1) := by decide +kernel
theorem d_M_make_8 : decode b_M_make 8 = .ok (.getfield 46, 3) := by decide +kernel
theorem d_M_make_11 : decode b_M_make 11 = .ok (.iconst 1, 1) := by decide +kernel
theorem d_M_make_12 : decode b_M_make 12 = .ok (.iadd, 1) := by decide +kernel
theorem d_M_make_13 : decode b_M_make 13 = .ok (.putfield 46, 3) := by decide +kernel
theorem d_M_make_16 : decode b_M_make 16 = .ok (.aload_n 0, 1) := by decide +kernel
theorem d_M_make_17 : decode b_M_make 17 = .ok (.getfield 7, 3) := by decide +kernel
theorem d_M_make_20 : decode b_M_make 20 = .ok (.iload 7, 2) := by decide +kernel
theorem d_M_make_22 : decode b_M_make 22 = .ok (.iload_n 1, 1) := by decide +kernel
theorem d_M_make_23 : decode b_M_make 23 = .ok (.iastore, 1) := by decide +kernel
theorem d_M_make_24 : decode b_M_make 24 = .ok (.aload_n 0, 1) := by decide +kernel
theorem d_M_make_25 : decode b_M_make 25 = .ok (.getfield 13, 3) := by decide +kernel
theorem d_M_make_28 : decode b_M_make 28 = .ok (.iload 7, 2) := by decide +kernel
theorem d_M_make_30 : decode b_M_make 30 = .ok (.iload_n 2, 1) := by decide +kernel
theorem d_M_make_31 : decode b_M_make 31 = .ok (.iastore, 1) := by decide +kernel
theorem d_M_make_32 : decode b_M_make 32 = .ok (.aload_n 0, 1) := by decide +kernel
theorem d_M_make_33 : decode b_M_make 33 = .ok (.getfield 16, 3) := by decide +kernel
theorem d_M_make_36 : decode b_M_make 36 = .ok (.iconst 3, 1) := by decide +kernel
theorem d_M_make_37 : decode b_M_make 37 = .ok (.iload 7, 2) := by decide +kernel
theorem d_M_make_39 : decode b_M_make 39 = .ok (.imul, 1) := by decide +kernel
theorem d_M_make_40 : decode b_M_make 40 = .ok (.iload_n 3, 1) := by decide +kernel
theorem d_M_make_41 : decode b_M_make 41 = .ok (.iastore, 1) := by decide +kernel
theorem d_M_make_42 : decode b_M_make 42 = .ok (.aload_n 0, 1) := by decide +kernel
theorem d_M_make_43 : decode b_M_make 43 = .ok (.getfield 16, 3) := by decide +kernel
theorem d_M_make_46 : decode b_M_make 46 = .ok (.iconst 3, 1) := by decide +kernel
theorem d_M_make_47 : decode b_M_make 47 = .ok (.iload 7, 2) := by decide +kernel
theorem d_M_make_49 : decode b_M_make 49 = .ok (.imul, 1) := by decide +kernel
theorem d_M_make_50 : decode b_M_make 50 = .ok (.iconst 1, 1) := by decide +kernel
theorem d_M_make_51 : decode b_M_make 51 = .ok (.iadd, 1) := by decide +kernel
theorem d_M_make_52 : decode b_M_make 52 = .ok (.iload 4, 2) := by decide +kernel
theorem d_M_make_54 : decode b_M_make 54 = .ok (.iastore, 1) := by decide +kernel
theorem d_M_make_55 : decode b_M_make 55 = .ok (.aload_n 0, 1) := by decide +kernel
theorem d_M_make_56 : decode b_M_make 56 = .ok (.getfield 16, 3) := by decide +kernel
theorem d_M_make_59 : decode b_M_make 59 = .ok (.iconst 3, 1) := by decide +kernel
theorem d_M_make_60 : decode b_M_make 60 = .ok (.iload 7, 2) := by decide +kernel
theorem d_M_make_62 : decode b_M_make 62 = .ok (.imul, 1) := by decide +kernel
theorem d_M_make_63 : decode b_M_make 63 = .ok (.iconst 2, 1) := by decide +kernel
theorem d_M_make_64 : decode b_M_make 64 = .ok (.iadd, 1) := by decide +kernel
theorem d_M_make_65 : decode b_M_make 65 = .ok (.iload 5, 2) := by decide +kernel
theorem d_M_make_67 : decode b_M_make 67 = .ok (.iastore, 1) := by decide +kernel
theorem d_M_make_68 : decode b_M_make 68 = .ok (.aload_n 0, 1) := by decide +kernel
theorem d_M_make_69 : decode b_M_make 69 = .ok (.getfield 19, 3) := by decide +kernel
theorem d_M_make_72 : decode b_M_make 72 = .ok (.iload 7, 2) := by decide +kernel
theorem d_M_make_74 : decode b_M_make 74 = .ok (.iload 6, 2) := by decide +kernel
theorem d_M_make_76 : decode b_M_make 76 = .ok (.iastore, 1) := by decide +kernel
theorem d_M_make_77 : decode b_M_make 77 = .ok (.aload_n 0, 1) := by decide +kernel
theorem d_M_make_78 : decode b_M_make 78 = .ok (.getfield 22, 3) := by decide +kernel
theorem d_M_make_81 : decode b_M_make 81 = .ok (.iload 7, 2) := by decide +kernel
theorem d_M_make_83 : decode b_M_make 83 = .ok (.iconst 0, 1) := by decide +kernel
theorem d_M_make_84 : decode b_M_make 84 = .ok (.bastore, 1) := by decide +kernel
theorem d_M_make_85 : decode b_M_make 85 = .ok (.iload_n 3, 1) := by decide +kernel
theorem d_M_make_86 : decode b_M_make 86 = .ok (.ifCond .lt 10, 3) := by decide +kernel
theorem d_M_make_89 : decode b_M_make 89 = .ok (.aload_n 0, 1) := by decide +kernel
theorem d_M_make_90 : decode b_M_make 90 = .ok (.getfield 22, 3) := by decide +kernel
theorem d_M_make_93 : decode b_M_make 93 = .ok (.iload_n 3, 1) := by decide +kernel
theorem d_M_make_94 : decode b_M_make 94 = .ok (.iconst 1, 1) := by decide +kernel
theorem d_M_make_95 : decode b_M_make 95 = .ok (.bastore, 1) := by decide +kernel
theorem d_M_make_96 : decode b_M_make 96 = .ok (.iload 4, 2) := by decide +kernel
theorem d_M_make_98 : decode b_M_make 98 = .ok (.ifCond .lt 11, 3) := by decide +kernel
theorem d_M_make_101 : decode b_M_make 101 = .ok (.aload_n 0, 1) := by decide +kernel
theorem d_M_make_102 : decode b_M_make 102 = .ok (.getfield 22, 3) := by decide +kernel
theorem d_M_make_105 : decode b_M_make 105 = .ok (.iload 4, 2) := by decide +kernel
theorem d_M_make_107 : decode b_M_make 107 = .ok (.iconst 1, 1) := by decide +kernel
theorem d_M_make_108 : decode b_M_make 108 = .ok (.bastore, 1) := by decide +kernel
theorem d_M_make_109 : decode b_M_make 109 = .ok (.iload 5, 2) := by decide +kernel
theorem d_M_make_111 : decode b_M_make 111 = .ok (.ifCond .lt 11, 3) := by decide +kernel
theorem d_M_make_114 : decode b_M_make 114 = .ok (.aload_n 0, 1) := by decide +kernel
theorem d_M_make_115 : decode b_M_make 115 = .ok (.getfield 22, 3) := by decide +kernel
theorem d_M_make_118 : decode b_M_make 118 = .ok (.iload 5, 2) := by decide +kernel
theorem d_M_make_120 : decode b_M_make 120 = .ok (.iconst 1, 1) := by decide +kernel
theorem d_M_make_121 : decode b_M_make 121 = .ok (.bastore, 1) := by decide +kernel
theorem d_M_make_122 : decode b_M_make 122 = .ok (.iload 7, 2) := by decide +kernel
theorem d_M_make_124 : decode b_M_make 124 = .ok (.ireturn, 1) := by decide +kernel
theorem d_M_leaf_0 : decode b_M_leaf 0 = .ok (.iload_n 1, 1) := by decide +kernel
theorem d_M_leaf_1 : decode b_M_leaf 1 = .ok (.iconst 0, 1) := by decide +kernel
theorem d_M_leaf_2 : decode b_M_leaf 2 = .ok (.iconst 1, 1) := by decide +kernel
theorem d_M_leaf_3 : decode b_M_leaf 3 = .ok (.invokestatic 49, 3) := by decide +kernel
theorem d_M_leaf_6 : decode b_M_leaf 6 = .ok (.ifCond .eq 18, 3) := by decide +kernel
theorem d_M_leaf_9 : decode b_M_leaf 9 = .ok (.iload_n 1, 1) := by decide +kernel
theorem d_M_leaf_10 : decode b_M_leaf 10 = .ok (.iconst 1, 1) := by decide +kernel
theorem d_M_leaf_11 : decode b_M_leaf 11 = .ok (.if_icmp .ne 15, 3) := by decide +kernel
theorem d_M_leaf_14 : decode b_M_leaf 14 = .ok (.iload_n 2, 1) := by decide +kernel
theorem d_M_leaf_15 : decode b_M_leaf 15 = .ok (.iconst 0, 1) := by decide +kernel
theorem d_M_leaf_16 : decode b_M_leaf 16 = .ok (.bipush 7, 2) := by decide +kernel
theorem d_M_leaf_18 : decode b_M_leaf 18 = .ok (.invokestatic 49, 3) := by decide +kernel
theorem d_M_leaf_21 : decode b_M_leaf 21 = .ok (.ifCond .ne 5, 3) := by decide +kernel
theorem d_M_leaf_24 : decode b_M_leaf 24 = .ok (.iconst (-1), 1) := by decide +kernel
theorem d_M_leaf_25 : decode b_M_leaf 25 = .ok (.ireturn, 1) := by decide +kernel
theorem d_M_leaf_26 : decode b_M_leaf 26 = .ok (.aload_n 0, 1) := by decide +kernel
theorem d_M_leaf_27 : decode b_M_leaf 27 = .ok (.getfield 46, 3) := by decide +kernel
theorem d_M_leaf_30 : decode b_M_leaf 30 = .ok (.bipush 60, 2) := by decide +kernel
theorem d_M_leaf_32 : decode b_M_leaf 32 = .ok (.if_icmp .ne 8, 3) := by decide +kernel
theorem d_M_leaf_35 : decode b_M_leaf 35 = .ok (.bipush (-4), 2) := by decide +kernel
theorem d_M_leaf_37 : decode b_M_leaf 37 = .ok (.goto 13, 3) := by decide +kernel
theorem d_M_leaf_40 : decode b_M_leaf 40 = .ok (.aload_n 0, 1) := by decide +kernel
theorem d_M_leaf_41 : decode b_M_leaf 41 = .ok (.iload_n 1, 1) := by decide +kernel
theorem d_M_leaf_42 : decode b_M_leaf 42 = .ok (.iload_n 2, 1) := by decide +kernel
theorem d_M_leaf_43 : decode b_M_leaf 43 = .ok (.iconst (-1), 1) := by decide +kernel
theorem d_M_leaf_44 : decode b_M_leaf 44 = .ok (.iconst (-1), 1) := by decide +kernel
theorem d_M_leaf_45 : decode b_M_leaf 45 = .ok (.iconst (-1), 1) := by decide +kernel
theorem d_M_leaf_46 : decode b_M_leaf 46 = .ok (.iconst 1, 1) := by decide +kernel
theorem d_M_leaf_47 : decode b_M_leaf 47 = .ok (.invokevirtual 53, 3) := by decide +kernel
theorem d_M_leaf_50 : decode b_M_leaf 50 = .ok (.ireturn, 1) := by decide +kernel
theorem d_M_unary_0 : decode b_M_unary 0 = .ok (.iload_n 1, 1) := by decide +kernel
theorem d_M_unary_1 : decode b_M_unary 1 = .ok (.iconst 0, 1) := by decide +kernel
theorem d_M_unary_2 : decode b_M_unary 2 = .ok (.iconst 3, 1) := by decide +kernel
theorem d_M_unary_3 : decode b_M_unary 3 = .ok (.invokestatic 49, 3) := by decide +kernel
theorem d_M_unary_6 : decode b_M_unary 6 = .ok (.ifCond .eq 17, 3) := by decide +kernel
theorem d_M_unary_9 : decode b_M_unary 9 = .ok (.iload_n 1, 1) := by decide +kernel
theorem d_M_unary_10 : decode b_M_unary 10 = .ok (.ifCond .ne 15, 3) := by decide +kernel
theorem d_M_unary_13 : decode b_M_unary 13 = .ok (.iload_n 2, 1) := by decide +kernel
theorem d_M_unary_14 : decode b_M_unary 14 = .ok (.iconst 0, 1) := by decide +kernel
theorem d_M_unary_15 : decode b_M_unary 15 = .ok (.bipush 7, 2) := by decide +kernel
theorem d_M_unary_17 : decode b_M_unary 17 = .ok (.invokestatic 49, 3) := by decide +kernel
theorem d_M_unary_20 : decode b_M_unary 20 = .ok (.ifCond .ne 5, 3) := by decide +kernel
theorem d_M_unary_23 : decode b_M_unary 23 = .ok (.iconst (-1), 1) := by decide +kernel
theorem d_M_unary_24 : decode b_M_unary 24 = .ok (.ireturn, 1) := by decide +kernel
theorem d_M_unary_25 : decode b_M_unary 25 = .ok (.aload_n 0, 1) := by decide +kernel
theorem d_M_unary_26 : decode b_M_unary 26 = .ok (.iload_n 3, 1) := by decide +kernel
theorem d_M_unary_27 : decode b_M_unary 27 = .ok (.invokevirtual 57, 3) := by decide +kernel
theorem d_M_unary_30 : decode b_M_unary 30 = .ok (.ifCond .ne 6, 3) := by decide +kernel
theorem d_M_unary_33 : decode b_M_unary 33 = .ok (.bipush (-2), 2) := by decide +kernel
theorem d_M_unary_35 : decode b_M_unary 35 = .ok (.ireturn, 1) := by decide +kernel
theorem d_M_unary_36 : decode b_M_unary 36 = .ok (.aload_n 0, 1) := by decide +kernel
theorem d_M_unary_37 : decode b_M_unary 37 = .ok (.getfield 22, 3) := by decide +kernel
theorem d_M_unary_40 : decode b_M_unary 40 = .ok (.iload_n 3, 1) := by decide +kernel
theorem d_M_unary_41 : decode b_M_unary 41 = .ok (.baload, 1) := by decide +kernel
theorem d_M_unary_42 : decode b_M_unary 42 = .ok (.ifCond .eq 6, 3) := by decide +kernel
theorem d_M_unary_45 : decode b_M_unary 45 = .ok (.bipush (-3), 2) := by decide +kernel
theorem d_M_unary_47 : decode b_M_unary 47 = .ok (.ireturn, 1) := by decide +kernel
theorem d_M_unary_48 : decode b_M_unary 48 = .ok (.aload_n 0, 1) := by decide +kernel
theorem d_M_unary_49 : decode b_M_unary 49 = .ok (.getfield 46, 3) := by decide +kernel
theorem d_M_unary_52 : decode b_M_unary 52 = .ok (.bipush 60, 2) := by decide +kernel
theorem d_M_unary_54 : decode b_M_unary 54 = .ok (.if_icmp .ne 6, 3) := by decide +kernel
theorem d_M_unary_57 : decode b_M_unary 57 = .ok (.bipush (-4), 2) := by decide +kernel
theorem d_M_unary_59 : decode b_M_unary 59 = .ok (.ireturn, 1) := by decide +kernel
theorem d_M_unary_60 : decode b_M_unary 60 = .ok (.aload_n 0, 1) := by decide +kernel
theorem d_M_unary_61 : decode b_M_unary 61 = .ok (.getfield 19, 3) := by decide +kernel
theorem d_M_unary_64 : decode b_M_unary 64 = .ok (.iload_n 3, 1) := by decide +kernel
theorem d_M_unary_65 : decode b_M_unary 65 = .ok (.iaload, 1) := by decide +kernel
theorem d_M_unary_66 : decode b_M_unary 66 = .ok (.bipush 12, 2) := by decide +kernel
theorem d_M_unary_68 : decode b_M_unary 68 = .ok (.if_icmp .ne 8, 3) := by decide +kernel
theorem d_M_unary_71 : decode b_M_unary 71 = .ok (.bipush (-5), 2) := by decide +kernel
theorem d_M_unary_73 : decode b_M_unary 73 = .ok (.goto 23, 3) := by decide +kernel
theorem d_M_unary_76 : decode b_M_unary 76 = .ok (.aload_n 0, 1) := by decide +kernel
theorem d_M_unary_77 : decode b_M_unary 77 = .ok (.bipush 10, 2) := by decide +kernel
theorem d_M_unary_79 : decode b_M_unary 79 = .ok (.iload_n 1, 1) := by decide +kernel
theorem d_M_unary_80 : decode b_M_unary 80 = .ok (.iadd, 1) := by decide +kernel
theorem d_M_unary_81 : decode b_M_unary 81 = .ok (.iload_n 2, 1) := by decide +kernel
theorem d_M_unary_82 : decode b_M_unary 82 = .ok (.iload_n 3, 1) := by decide +kernel
theorem d_M_unary_83 : decode b_M_unary 83 = .ok (.iconst (-1), 1) := by decide +kernel
theorem d_M_unary_84 : decode b_M_unary 84 = .ok (.iconst (-1), 1) := by decide +kernel
theorem d_M_unary_85 : decode b_M_unary 85 = .ok (.aload_n 0, 1) := by decide +kernel
theorem d_M_unary_86 : decode b_M_unary 86 = .ok (.getfield 19, 3) := by decide +kernel
theorem d_M_unary_89 : decode b_M_unary 89 = .ok (.iload_n 3, 1) := by decide +kernel
theorem d_M_unary_90 : decode b_M_unary 90 = .ok (.iaload, 1) := by decide +kernel
theorem d_M_unary_91 : decode b_M_unary 91 = .ok (.iconst 1, 1) := by decide +kernel
theorem d_M_unary_92 : decode b_M_unary 92 = .ok (.iadd, 1) := by decide +kernel
theorem d_M_unary_93 : decode b_M_unary 93 = .ok (.invokevirtual 53, 3) := by decide +kernel
theorem d_M_unary_96 : decode b_M_unary 96 = .ok (.ireturn, 1) := by decide +kernel
theorem d_M_binary_0 : decode b_M_binary 0 = .ok (.iload_n 1, 1) := by decide +kernel
theorem d_M_binary_1 : decode b_M_binary 1 = .ok (.iconst 0, 1) := by decide +kernel
theorem d_M_binary_2 : decode b_M_binary 2 = .ok (.bipush 11, 2) := by decide +kernel
theorem d_M_binary_4 : decode b_M_binary 4 = .ok (.invokestatic 49, 3) := by decide +kernel
theorem d_M_binary_7 : decode b_M_binary 7 = .ok (.ifCond .ne 5, 3) := by decide +kernel
theorem d_M_binary_10 : decode b_M_binary 10 = .ok (.iconst (-1), 1) := by decide +kernel
theorem d_M_binary_11 : decode b_M_binary 11 = .ok (.ireturn, 1) := by decide +kernel
theorem d_M_binary_12 : decode b_M_binary 12 = .ok (.aload_n 0, 1) := by decide +kernel
theorem d_M_binary_13 : decode b_M_binary 13 = .ok (.iload_n 2, 1) := by decide +kernel
theorem d_M_binary_14 : decode b_M_binary 14 = .ok (.invokevirtual 57, 3) := by decide +kernel
theorem d_M_binary_17 : decode b_M_binary 17 = .ok (.ifCond .eq 11, 3) := by decide +kernel
theorem d_M_binary_20 : decode b_M_binary 20 = .ok (.aload_n 0, 1) := by decide +kernel
theorem d_M_binary_21 : decode b_M_binary 21 = .ok (.iload_n 3, 1) := by decide +kernel
theorem d_M_binary_22 : decode b_M_binary 22 = .ok (.invokevirtual 57, 3) := by decide +kernel
theorem d_M_binary_25 : decode b_M_binary 25 = .ok (.ifCond .ne 6, 3) := by decide +kernel
theorem d_M_binary_28 : decode b_M_binary 28 = .ok (.bipush (-2), 2) := by decide +kernel
theorem d_M_binary_30 : decode b_M_binary 30 = .ok (.ireturn, 1) := by decide +kernel
theorem d_M_binary_31 : decode b_M_binary 31 = .ok (.aload_n 0, 1) := by decide +kernel
theorem d_M_binary_32 : decode b_M_binary 32 = .ok (.getfield 22, 3) := by decide +kernel
theorem d_M_binary_35 : decode b_M_binary 35 = .ok (.iload_n 2, 1) := by decide +kernel
theorem d_M_binary_36 : decode b_M_binary 36 = .ok (.baload, 1) := by decide +kernel
theorem d_M_binary_37 : decode b_M_binary 37 = .ok (.ifCond .ne 17, 3) := by decide +kernel
theorem d_M_binary_40 : decode b_M_binary 40 = .ok (.aload_n 0, 1) := by decide +kernel
theorem d_M_binary_41 : decode b_M_binary 41 = .ok (.getfield 22, 3) := by decide +kernel
theorem d_M_binary_44 : decode b_M_binary 44 = .ok (.iload_n 3, 1) := by decide +kernel
theorem d_M_binary_45 : decode b_M_binary 45 = .ok (.baload, 1) := by decide +kernel
theorem d_M_binary_46 : decode b_M_binary 46 = .ok (.ifCond .ne 8, 3) := by decide +kernel
theorem d_M_binary_49 : decode b_M_binary 49 = .ok (.iload_n 2, 1) := by decide +kernel
theorem d_M_binary_50 : decode b_M_binary 50 = .ok (.iload_n 3, 1) := by decide +kernel
theorem d_M_binary_51 : decode b_M_binary 51 = .ok (.if_icmp .ne 6, 3) := by decide +kernel
theorem d_M_binary_54 : decode b_M_binary 54 = .ok (.bipush (-3), 2) := by decide +kernel
theorem d_M_binary_56 : decode b_M_binary 56 = .ok (.ireturn, 1) := by decide +kernel
theorem d_M_binary_57 : decode b_M_binary 57 = .ok (.aload_n 0, 1) := by decide +kernel
theorem d_M_binary_58 : decode b_M_binary 58 = .ok (.getfield 46, 3) := by decide +kernel
theorem d_M_binary_61 : decode b_M_binary 61 = .ok (.bipush 60, 2) := by decide +kernel
theorem d_M_binary_63 : decode b_M_binary 63 = .ok (.if_icmp .ne 6, 3) := by decide +kernel
theorem d_M_binary_66 : decode b_M_binary 66 = .ok (.bipush (-4), 2) := by decide +kernel
theorem d_M_binary_68 : decode b_M_binary 68 = .ok (.ireturn, 1) := by decide +kernel
theorem d_M_binary_69 : decode b_M_binary 69 = .ok (.aload_n 0, 1) := by decide +kernel
theorem d_M_binary_70 : decode b_M_binary 70 = .ok (.getfield 19, 3) := by decide +kernel
theorem d_M_binary_73 : decode b_M_binary 73 = .ok (.iload_n 2, 1) := by decide +kernel
theorem d_M_binary_74 : decode b_M_binary 74 = .ok (.iaload, 1) := by decide +kernel
theorem d_M_binary_75 : decode b_M_binary 75 = .ok (.aload_n 0, 1) := by decide +kernel
theorem d_M_binary_76 : decode b_M_binary 76 = .ok (.getfield 19, 3) := by decide +kernel
theorem d_M_binary_79 : decode b_M_binary 79 = .ok (.iload_n 3, 1) := by decide +kernel
theorem d_M_binary_80 : decode b_M_binary 80 = .ok (.iaload, 1) := by decide +kernel
theorem d_M_binary_81 : decode b_M_binary 81 = .ok (.if_icmp .le 12, 3) := by decide +kernel
theorem d_M_binary_84 : decode b_M_binary 84 = .ok (.aload_n 0, 1) := by decide +kernel
theorem d_M_binary_85 : decode b_M_binary 85 = .ok (.getfield 19, 3) := by decide +kernel
theorem d_M_binary_88 : decode b_M_binary 88 = .ok (.iload_n 2, 1) := by decide +kernel
theorem d_M_binary_89 : decode b_M_binary 89 = .ok (.iaload, 1) := by decide +kernel
theorem d_M_binary_90 : decode b_M_binary 90 = .ok (.goto 9, 3) := by decide +kernel
theorem d_M_binary_93 : decode b_M_binary 93 = .ok (.aload_n 0, 1) := by decide +kernel
theorem d_M_binary_94 : decode b_M_binary 94 = .ok (.getfield 19, 3) := by decide +kernel
theorem d_M_binary_97 : decode b_M_binary 97 = .ok (.iload_n 3, 1) := by decide +kernel
theorem d_M_binary_98 : decode b_M_binary 98 = .ok (.iaload, 1) := by decide +kernel
theorem d_M_binary_99 : decode b_M_binary 99 = .ok (.istore 4, 2) := by decide +kernel
theorem d_M_binary_101 : decode b_M_binary 101 = .ok (.iload 4, 2) := by decide +kernel
theorem d_M_binary_103 : decode b_M_binary 103 = .ok (.bipush 12, 2) := by decide +kernel
theorem d_M_binary_105 : decode b_M_binary 105 = .ok (.if_icmp .ne 8, 3) := by decide +kernel
theorem d_M_binary_108 : decode b_M_binary 108 = .ok (.bipush (-5), 2) := by decide +kernel
theorem d_M_binary_110 : decode b_M_binary 110 = .ok (.goto 19, 3) := by decide +kernel
theorem d_M_binary_113 : decode b_M_binary 113 = .ok (.aload_n 0, 1) := by decide +kernel
theorem d_M_binary_114 : decode b_M_binary 114 = .ok (.bipush 20, 2) := by decide +kernel
theorem d_M_binary_116 : decode b_M_binary 116 = .ok (.iload_n 1, 1) := by decide +kernel
theorem d_M_binary_117 : decode b_M_binary 117 = .ok (.iadd, 1) := by decide +kernel
theorem d_M_binary_118 : decode b_M_binary 118 = .ok (.iconst 0, 1) := by decide +kernel
theorem d_M_binary_119 : decode b_M_binary 119 = .ok (.iload_n 2, 1) := by decide +kernel
theorem d_M_binary_120 : decode b_M_binary 120 = .ok (.iload_n 3, 1) := by decide +kernel
theorem d_M_binary_121 : decode b_M_binary 121 = .ok (.iconst (-1), 1) := by decide +kernel
theorem d_M_binary_122 : decode b_M_binary 122 = .ok (.iload 4, 2) := by decide +kernel
theorem d_M_binary_124 : decode b_M_binary 124 = .ok (.iconst 1, 1) := by decide +kernel
theorem d_M_binary_125 : decode b_M_binary 125 = .ok (.iadd, 1) := by decide +kernel
theorem d_M_binary_126 : decode b_M_binary 126 = .ok (.invokevirtual 53, 3) := by decide +kernel
theorem d_M_binary_129 : decode b_M_binary 129 = .ok (.ireturn, 1) := by decide +kernel
theorem d_M_ternary_0 : decode b_M_ternary 0 = .ok (.iload_n 1, 1) := by decide +kernel
theorem d_M_ternary_1 : decode b_M_ternary 1 = .ok (.iconst 0, 1) := by decide +kernel
theorem d_M_ternary_2 : decode b_M_ternary 2 = .ok (.iconst 1, 1) := by decide +kernel
theorem d_M_ternary_3 : decode b_M_ternary 3 = .ok (.invokestatic 49, 3) := by decide +kernel
theorem d_M_ternary_6 : decode b_M_ternary 6 = .ok (.ifCond .ne 5, 3) := by decide +kernel
theorem d_M_ternary_9 : decode b_M_ternary 9 = .ok (.iconst (-1), 1) := by decide +kernel
theorem d_M_ternary_10 : decode b_M_ternary 10 = .ok (.ireturn, 1) := by decide +kernel
theorem d_M_ternary_11 : decode b_M_ternary 11 = .ok (.aload_n 0, 1) := by decide +kernel
theorem d_M_ternary_12 : decode b_M_ternary 12 = .ok (.iload_n 2, 1) := by decide +kernel
theorem d_M_ternary_13 : decode b_M_ternary 13 = .ok (.invokevirtual 57, 3) := by decide +kernel
theorem d_M_ternary_16 : decode b_M_ternary 16 = .ok (.ifCond .eq 20, 3) := by decide +kernel
theorem d_M_ternary_19 : decode b_M_ternary 19 = .ok (.aload_n 0, 1) := by decide +kernel
theorem d_M_ternary_20 : decode b_M_ternary 20 = .ok (.iload_n 3, 1) := by decide +kernel
theorem d_M_ternary_21 : decode b_M_ternary 21 = .ok (.invokevirtual 57, 3) := by decide +kernel
theorem d_M_ternary_24 : decode b_M_ternary 24 = .ok (.ifCond .eq 12, 3) := by decide +kernel
theorem d_M_ternary_27 : decode b_M_ternary 27 = .ok (.aload_n 0, 1) := by decide +kernel
theorem d_M_ternary_28 : decode b_M_ternary 28 = .ok (.iload 4, 2) := by decide +kernel
theorem d_M_ternary_30 : decode b_M_ternary 30 = .ok (.invokevirtual 57, 3) := by decide +kernel
theorem d_M_ternary_33 : decode b_M_ternary 33 = .ok (.ifCond .ne 6, 3) := by decide +kernel
theorem d_M_ternary_36 : decode b_M_ternary 36 = .ok (.bipush (-2), 2) := by decide +kernel
theorem d_M_ternary_38 : decode b_M_ternary 38 = .ok (.ireturn, 1) := by decide +kernel
theorem d_M_ternary_39 : decode b_M_ternary 39 = .ok (.aload_n 0, 1) := by decide +kernel
theorem d_M_ternary_40 : decode b_M_ternary 40 = .ok (.getfield 22, 3) := by decide +kernel
theorem d_M_ternary_43 : decode b_M_ternary 43 = .ok (.iload_n 2, 1) := by decide +kernel
theorem d_M_ternary_44 : decode b_M_ternary 44 = .ok (.baload, 1) := by decide +kernel
theorem d_M_ternary_45 : decode b_M_ternary 45 = .ok (.ifCond .ne 39, 3) := by decide +kernel
theorem d_M_ternary_48 : decode b_M_ternary 48 = .ok (.aload_n 0, 1) := by decide +kernel
theorem d_M_ternary_49 : decode b_M_ternary 49 = .ok (.getfield 22, 3) := by decide +kernel
theorem d_M_ternary_52 : decode b_M_ternary 52 = .ok (.iload_n 3, 1) := by decide +kernel
theorem d_M_ternary_53 : decode b_M_ternary 53 = .ok (.baload, 1) := by decide +kernel
theorem d_M_ternary_54 : decode b_M_ternary 54 = .ok (.ifCond .ne 30, 3) := by decide +kernel
theorem d_M_ternary_57 : decode b_M_ternary 57 = .ok (.aload_n 0, 1) := by decide +kernel
theorem d_M_ternary_58 : decode b_M_ternary 58 = .ok (.getfield 22, 3) := by decide +kernel
theorem d_M_ternary_61 : decode b_M_ternary 61 = .ok (.iload 4, 2) := by decide +kernel
theorem d_M_ternary_63 : decode b_M_ternary 63 = .ok (.baload, 1) := by decide +kernel
theorem d_M_ternary_64 : decode b_M_ternary 64 = .ok (.ifCond .ne 20, 3) := by decide +kernel
theorem d_M_ternary_67 : decode b_M_ternary 67 = .ok (.iload_n 2, 1) := by decide +kernel
theorem d_M_ternary_68 : decode b_M_ternary 68 = .ok (.iload_n 3, 1) := by decide +kernel
theorem d_M_ternary_69 : decode b_M_ternary 69 = .ok (.if_icmp .eq 15, 3) := by decide +kernel
theorem d_M_ternary_72 : decode b_M_ternary 72 = .ok (.iload_n 2, 1) := by decide +kernel
theorem d_M_ternary_73 : decode b_M_ternary 73 = .ok (.iload 4, 2) := by decide +kernel
theorem d_M_ternary_75 : decode b_M_ternary 75 = .ok (.if_icmp .eq 9, 3) := by decide +kernel
theorem d_M_ternary_78 : decode b_M_ternary 78 = .ok (.iload_n 3, 1) := by decide +kernel
theorem d_M_ternary_79 : decode b_M_ternary 79 = .ok (.iload 4, 2) := by decide +kernel
theorem d_M_ternary_81 : decode b_M_ternary 81 = .ok (.if_icmp .ne 6, 3) := by decide +kernel
theorem d_M_ternary_84 : decode b_M_ternary 84 = .ok (.bipush (-3), 2) := by decide +kernel
theorem d_M_ternary_86 : decode b_M_ternary 86 = .ok (.ireturn, 1) := by decide +kernel
theorem d_M_ternary_87 : decode b_M_ternary 87 = .ok (.aload_n 0, 1) := by decide +kernel
theorem d_M_ternary_88 : decode b_M_ternary 88 = .ok (.getfield 46, 3) := by decide +kernel
theorem d_M_ternary_91 : decode b_M_ternary 91 = .ok (.bipush 60, 2) := by decide +kernel
theorem d_M_ternary_93 : decode b_M_ternary 93 = .ok (.if_icmp .ne 6, 3) := by decide +kernel
theorem d_M_ternary_96 : decode b_M_ternary 96 = .ok (.bipush (-4), 2) := by decide +kernel
theorem d_M_ternary_98 : decode b_M_ternary 98 = .ok (.ireturn, 1) := by decide +kernel
theorem d_M_ternary_99 : decode b_M_ternary 99 = .ok (.aload_n 0, 1) := by decide +kernel
theorem d_M_ternary_100 : decode b_M_ternary 100 = .ok (.getfield 19, 3) := by decide +kernel
theorem d_M_ternary_103 : decode b_M_ternary 103 = .ok (.iload_n 2, 1) := by decide +kernel
theorem d_M_ternary_104 : decode b_M_ternary 104 = .ok (.iaload, 1) := by decide +kernel
theorem d_M_ternary_105 : decode b_M_ternary 105 = .ok (.aload_n 0, 1) := by decide +kernel
theorem d_M_ternary_106 : decode b_M_ternary 106 = .ok (.getfield 19, 3) := by decide +kernel
theorem d_M_ternary_109 : decode b_M_ternary 109 = .ok (.iload_n 3, 1) := by decide +kernel
theorem d_M_ternary_110 : decode b_M_ternary 110 = .ok (.iaload, 1) := by decide +kernel
theorem d_M_ternary_111 : decode b_M_ternary 111 = .ok (.if_icmp .le 12, 3) := by decide +kernel
theorem d_M_ternary_114 : decode b_M_ternary 114 = .ok (.aload_n 0, 1) := by decide +kernel
theorem d_M_ternary_115 : decode b_M_ternary 115 = .ok (.getfield 19, 3) := by decide +kernel
theorem d_M_ternary_118 : decode b_M_ternary 118 = .ok (.iload_n 2, 1) := by decide +kernel
theorem d_M_ternary_119 : decode b_M_ternary 119 = .ok (.iaload, 1) := by decide +kernel
theorem d_M_ternary_120 : decode b_M_ternary 120 = .ok (.goto 9, 3) := by decide +kernel
theorem d_M_ternary_123 : decode b_M_ternary 123 = .ok (.aload_n 0, 1) := by decide +kernel
theorem d_M_ternary_124 : decode b_M_ternary 124 = .ok (.getfield 19, 3) := by decide +kernel
theorem d_M_ternary_127 : decode b_M_ternary 127 = .ok (.iload_n 3, 1) := by decide +kernel
theorem d_M_ternary_128 : decode b_M_ternary 128 = .ok (.iaload, 1) := by decide +kernel
theorem d_M_ternary_129 : decode b_M_ternary 129 = .ok (.istore 5, 2) := by decide +kernel
theorem d_M_ternary_131 : decode b_M_ternary 131 = .ok (.aload_n 0, 1) := by decide +kernel
theorem d_M_ternary_132 : decode b_M_ternary 132 = .ok (.getfield 19, 3) := by decide +kernel
theorem d_M_ternary_135 : decode b_M_ternary 135 = .ok (.iload 4, 2) := by decide +kernel
theorem d_M_ternary_137 : decode b_M_ternary 137 = .ok (.iaload, 1) := by decide +kernel
theorem d_M_ternary_138 : decode b_M_ternary 138 = .ok (.iload 5, 2) := by decide +kernel
theorem d_M_ternary_140 : decode b_M_ternary 140 = .ok (.if_icmp .le 12, 3) := by decide +kernel
theorem d_M_ternary_143 : decode b_M_ternary 143 = .ok (.aload_n 0, 1) := by decide +kernel
theorem d_M_ternary_144 : decode b_M_ternary 144 = .ok (.getfield 19, 3) := by decide +kernel
theorem d_M_ternary_147 : decode b_M_ternary 147 = .ok (.iload 4, 2) := by decide +kernel
theorem d_M_ternary_149 : decode b_M_ternary 149 = .ok (.iaload, 1) := by decide +kernel
theorem d_M_ternary_150 : decode b_M_ternary 150 = .ok (.istore 5, 2) := by decide +kernel
theorem d_M_ternary_152 : decode b_M_ternary 152 = .ok (.iload 5, 2) := by decide +kernel
theorem d_M_ternary_154 : decode b_M_ternary 154 = .ok (.bipush 12, 2) := by decide +kernel
theorem d_M_ternary_156 : decode b_M_ternary 156 = .ok (.if_icmp .ne 8, 3) := by decide +kernel
theorem d_M_ternary_159 : decode b_M_ternary 159 = .ok (.bipush (-5), 2) := by decide +kernel
theorem d_M_ternary_161 : decode b_M_ternary 161 = .ok (.goto 20, 3) := by decide +kernel
theorem d_M_ternary_164 : decode b_M_ternary 164 = .ok (.aload_n 0, 1) := by decide +kernel
theorem d_M_ternary_165 : decode b_M_ternary 165 = .ok (.bipush 40, 2) := by decide +kernel
theorem d_M_ternary_167 : decode b_M_ternary 167 = .ok (.iload_n 1, 1) := by decide +kernel
theorem d_M_ternary_168 : decode b_M_ternary 168 = .ok (.iadd, 1) := by decide +kernel
theorem d_M_ternary_169 : decode b_M_ternary 169 = .ok (.iconst 0, 1) := by decide +kernel
theorem d_M_ternary_170 : decode b_M_ternary 170 = .ok (.iload_n 2, 1) := by decide +kernel
theorem d_M_ternary_171 : decode b_M_ternary 171 = .ok (.iload_n 3, 1) := by decide +kernel
theorem d_M_ternary_172 : decode b_M_ternary 172 = .ok (.iload 4, 2) := by decide +kernel
theorem d_M_ternary_174 : decode b_M_ternary 174 = .ok (.iload 5, 2) := by decide +kernel
theorem d_M_ternary_176 : decode b_M_ternary 176 = .ok (.iconst 1, 1) := by decide +kernel
theorem d_M_ternary_177 : decode b_M_ternary 177 = .ok (.iadd, 1) := by decide +kernel
theorem d_M_ternary_178 : decode b_M_ternary 178 = .ok (.invokevirtual 53, 3) := by decide +kernel
theorem d_M_ternary_181 : decode b_M_ternary 181 = .ok (.ireturn, 1) := by decide +kernel
theorem d_M_expressions_0 : decode b_M_expressions 0 = .ok (.aload_n 0, 1) := by decide +kernel
theorem d_M_expressions_1 : decode b_M_expressions 1 = .ok (.getfield 46, 3) := by decide +kernel
theorem d_M_expressions_4 : decode b_M_expressions 4 = .ok (.ireturn, 1) := by decide +kernel
theorem d_M_about_0 : decode b_M_about 0 = .ok (.aload_n 0, 1) := by decide +kernel
theorem d_M_about_1 : decode b_M_about 1 = .ok (.iload_n 1, 1) := by decide +kernel
theorem d_M_about_2 : decode b_M_about 2 = .ok (.invokevirtual 57, 3) := by decide +kernel
theorem d_M_about_5 : decode b_M_about 5 = .ok (.ifCond .eq 28, 3) := by decide +kernel
theorem d_M_about_8 : decode b_M_about 8 = .ok (.aload_n 0, 1) := by decide +kernel
theorem d_M_about_9 : decode b_M_about 9 = .ok (.getfield 19, 3) := by decide +kernel
theorem d_M_about_12 : decode b_M_about 12 = .ok (.iload_n 1, 1) := by decide +kernel
theorem d_M_about_13 : decode b_M_about 13 = .ok (.iaload, 1) := by decide +kernel
theorem d_M_about_14 : decode b_M_about 14 = .ok (.aload_n 0, 1) := by decide +kernel
theorem d_M_about_15 : decode b_M_about 15 = .ok (.getfield 22, 3) := by decide +kernel
theorem d_M_about_18 : decode b_M_about 18 = .ok (.iload_n 1, 1) := by decide +kernel
theorem d_M_about_19 : decode b_M_about 19 = .ok (.baload, 1) := by decide +kernel
theorem d_M_about_20 : decode b_M_about 20 = .ok (.ifCond .eq 7, 3) := by decide +kernel
theorem d_M_about_23 : decode b_M_about 23 = .ok (.iconst 0, 1) := by decide +kernel
theorem d_M_about_24 : decode b_M_about 24 = .ok (.goto 5, 3) := by decide +kernel
theorem d_M_about_27 : decode b_M_about 27 = .ok (.bipush 32, 2) := by decide +kernel
theorem d_M_about_29 : decode b_M_about 29 = .ok (.iadd, 1) := by decide +kernel
theorem d_M_about_30 : decode b_M_about 30 = .ok (.goto 5, 3) := by decide +kernel
theorem d_M_about_33 : decode b_M_about 33 = .ok (.bipush (-2), 2) := by decide +kernel
theorem d_M_about_35 : decode b_M_about 35 = .ok (.ireturn, 1) := by decide +kernel
theorem d_M_set_0 : decode b_M_set 0 = .ok (.iload_n 1, 1) := by decide +kernel
theorem d_M_set_1 : decode b_M_set 1 = .ok (.iconst 0, 1) := by decide +kernel
theorem d_M_set_2 : decode b_M_set 2 = .ok (.bipush 7, 2) := by decide +kernel
theorem d_M_set_4 : decode b_M_set 4 = .ok (.invokestatic 49, 3) := by decide +kernel
theorem d_M_set_7 : decode b_M_set 7 = .ok (.ifCond .ne 5, 3) := by decide +kernel
theorem d_M_set_10 : decode b_M_set 10 = .ok (.iconst 0, 1) := by decide +kernel
theorem d_M_set_11 : decode b_M_set 11 = .ok (.ireturn, 1) := by decide +kernel
theorem d_M_set_12 : decode b_M_set 12 = .ok (.aload_n 0, 1) := by decide +kernel
theorem d_M_set_13 : decode b_M_set 13 = .ok (.getfield 33, 3) := by decide +kernel
theorem d_M_set_16 : decode b_M_set 16 = .ok (.iload_n 1, 1) := by decide +kernel
theorem d_M_set_17 : decode b_M_set 17 = .ok (.iaload, 1) := by decide +kernel
theorem d_M_set_18 : decode b_M_set 18 = .ok (.istore_n 3, 1) := by decide +kernel
theorem d_M_set_19 : decode b_M_set 19 = .ok (.aload_n 0, 1) := by decide +kernel
theorem d_M_set_20 : decode b_M_set 20 = .ok (.getfield 33, 3) := by decide +kernel
theorem d_M_set_23 : decode b_M_set 23 = .ok (.iload_n 1, 1) := by decide +kernel
theorem d_M_set_24 : decode b_M_set 24 = .ok (.iload_n 2, 1) := by decide +kernel
theorem d_M_set_25 : decode b_M_set 25 = .ok (.iastore, 1) := by decide +kernel
theorem d_M_set_26 : decode b_M_set 26 = .ok (.iload_n 3, 1) := by decide +kernel
theorem d_M_set_27 : decode b_M_set 27 = .ok (.ireturn, 1) := by decide +kernel
theorem d_M_variable_0 : decode b_M_variable 0 = .ok (.iload_n 1, 1) := by decide +kernel
theorem d_M_variable_1 : decode b_M_variable 1 = .ok (.iconst 0, 1) := by decide +kernel
theorem d_M_variable_2 : decode b_M_variable 2 = .ok (.bipush 7, 2) := by decide +kernel
theorem d_M_variable_4 : decode b_M_variable 4 = .ok (.invokestatic 49, 3) := by decide +kernel
theorem d_M_variable_7 : decode b_M_variable 7 = .ok (.ifCond .eq 12, 3) := by decide +kernel
theorem d_M_variable_10 : decode b_M_variable 10 = .ok (.aload_n 0, 1) := by decide +kernel
theorem d_M_variable_11 : decode b_M_variable 11 = .ok (.getfield 33, 3) := by decide +kernel
theorem d_M_variable_14 : decode b_M_variable 14 = .ok (.iload_n 1, 1) := by decide +kernel
theorem d_M_variable_15 : decode b_M_variable 15 = .ok (.iaload, 1) := by decide +kernel
theorem d_M_variable_16 : decode b_M_variable 16 = .ok (.goto 4, 3) := by decide +kernel
theorem d_M_variable_19 : decode b_M_variable 19 = .ok (.iconst 0, 1) := by decide +kernel
theorem d_M_variable_20 : decode b_M_variable 20 = .ok (.ireturn, 1) := by decide +kernel
theorem d_M_begin_0 : decode b_M_begin 0 = .ok (.aload_n 0, 1) := by decide +kernel
theorem d_M_begin_1 : decode b_M_begin 1 = .ok (.iload_n 1, 1) := by decide +kernel
theorem d_M_begin_2 : decode b_M_begin 2 = .ok (.invokevirtual 57, 3) := by decide +kernel
theorem d_M_begin_5 : decode b_M_begin 5 = .ok (.ifCond .ne 6, 3) := by decide +kernel
theorem d_M_begin_8 : decode b_M_begin 8 = .ok (.bipush (-2), 2) := by decide +kernel
theorem d_M_begin_10 : decode b_M_begin 10 = .ok (.ireturn, 1) := by decide +kernel
theorem d_M_begin_11 : decode b_M_begin 11 = .ok (.aload_n 0, 1) := by decide +kernel
theorem d_M_begin_12 : decode b_M_begin 12 = .ok (.getfield 22, 3) := by decide +kernel
theorem d_M_begin_15 : decode b_M_begin 15 = .ok (.iload_n 1, 1) := by decide +kernel
theorem d_M_begin_16 : decode b_M_begin 16 = .ok (.baload, 1) := by decide +kernel
theorem d_M_begin_17 : decode b_M_begin 17 = .ok (.ifCond .eq 6, 3) := by decide +kernel
theorem d_M_begin_20 : decode b_M_begin 20 = .ok (.bipush (-3), 2) := by decide +kernel
theorem d_M_begin_22 : decode b_M_begin 22 = .ok (.ireturn, 1) := by decide +kernel
theorem d_M_begin_23 : decode b_M_begin 23 = .ok (.iload_n 2, 1) := by decide +kernel
theorem d_M_begin_24 : decode b_M_begin 24 = .ok (.iconst 0, 1) := by decide +kernel
theorem d_M_begin_25 : decode b_M_begin 25 = .ok (.sipush 2000, 3) := by decide +kernel
theorem d_M_begin_28 : decode b_M_begin 28 = .ok (.invokestatic 49, 3) := by decide +kernel
theorem d_M_begin_31 : decode b_M_begin 31 = .ok (.ifCond .ne 5, 3) := by decide +kernel
theorem d_M_begin_34 : decode b_M_begin 34 = .ok (.iconst (-1), 1) := by decide +kernel
theorem d_M_begin_35 : decode b_M_begin 35 = .ok (.ireturn, 1) := by decide +kernel
theorem d_M_begin_36 : decode b_M_begin 36 = .ok (.aload_n 0, 1) := by decide +kernel
theorem d_M_begin_37 : decode b_M_begin 37 = .ok (.iload_n 1, 1) := by decide +kernel
theorem d_M_begin_38 : decode b_M_begin 38 = .ok (.putfield 39, 3) := by decide +kernel
theorem d_M_begin_41 : decode b_M_begin 41 = .ok (.aload_n 0, 1) := by decide +kernel
theorem d_M_begin_42 : decode b_M_begin 42 = .ok (.getfield 26, 3) := by decide +kernel
theorem d_M_begin_45 : decode b_M_begin 45 = .ok (.iload_n 1, 1) := by decide +kernel
theorem d_M_begin_46 : decode b_M_begin 46 = .ok (.iconst 0, 1) := by decide +kernel
theorem d_M_begin_47 : decode b_M_begin 47 = .ok (.iastore, 1) := by decide +kernel
theorem d_M_begin_48 : decode b_M_begin 48 = .ok (.aload_n 0, 1) := by decide +kernel
theorem d_M_begin_49 : decode b_M_begin 49 = .ok (.iconst 2, 1) := by decide +kernel
theorem d_M_begin_50 : decode b_M_begin 50 = .ok (.putfield 61, 3) := by decide +kernel
theorem d_M_begin_53 : decode b_M_begin 53 = .ok (.aload_n 0, 1) := by decide +kernel
theorem d_M_begin_54 : decode b_M_begin 54 = .ok (.iload_n 2, 1) := by decide +kernel
theorem d_M_begin_55 : decode b_M_begin 55 = .ok (.putfield 64, 3) := by decide +kernel
theorem d_M_begin_58 : decode b_M_begin 58 = .ok (.aload_n 0, 1) := by decide +kernel
theorem d_M_begin_59 : decode b_M_begin 59 = .ok (.iconst 0, 1) := by decide +kernel
theorem d_M_begin_60 : decode b_M_begin 60 = .ok (.putfield 67, 3) := by decide +kernel
theorem d_M_begin_63 : decode b_M_begin 63 = .ok (.aload_n 0, 1) := by decide +kernel
theorem d_M_begin_64 : decode b_M_begin 64 = .ok (.iconst 0, 1) := by decide +kernel
theorem d_M_begin_65 : decode b_M_begin 65 = .ok (.putfield 70, 3) := by decide +kernel
theorem d_M_begin_68 : decode b_M_begin 68 = .ok (.aload_n 0, 1) := by decide +kernel
theorem d_M_begin_69 : decode b_M_begin 69 = .ok (.iconst 0, 1) := by decide +kernel
theorem d_M_begin_70 : decode b_M_begin 70 = .ok (.putfield 73, 3) := by decide +kernel
theorem d_M_begin_73 : decode b_M_begin 73 = .ok (.iconst 0, 1) := by decide +kernel
theorem d_M_begin_74 : decode b_M_begin 74 = .ok (.ireturn, 1) := by decide +kernel
theorem d_M_give_0 : decode b_M_give 0 = .ok (.aload_n 0, 1) := by decide +kernel
theorem d_M_give_1 : decode b_M_give 1 = .ok (.iload_n 1, 1) := by decide +kernel
theorem d_M_give_2 : decode b_M_give 2 = .ok (.putfield 76, 3) := by decide +kernel
theorem d_M_give_5 : decode b_M_give 5 = .ok (.iconst 1, 1) := by decide +kernel
theorem d_M_give_6 : decode b_M_give 6 = .ok (.ireturn, 1) := by decide +kernel
theorem d_M_paid_0 : decode b_M_paid 0 = .ok (.aload_n 0, 1) := by decide +kernel
theorem d_M_paid_1 : decode b_M_paid 1 = .ok (.getfield 67, 3) := by decide +kernel
theorem d_M_paid_4 : decode b_M_paid 4 = .ok (.aload_n 0, 1) := by decide +kernel
theorem d_M_paid_5 : decode b_M_paid 5 = .ok (.getfield 64, 3) := by decide +kernel
theorem d_M_paid_8 : decode b_M_paid 8 = .ok (.if_icmp .ne 11, 3) := by decide +kernel
theorem d_M_paid_11 : decode b_M_paid 11 = .ok (.aload_n 0, 1) := by decide +kernel
theorem d_M_paid_12 : decode b_M_paid 12 = .ok (.bipush (-5), 2) := by decide +kernel
theorem d_M_paid_14 : decode b_M_paid 14 = .ok (.putfield 79, 3) := by decide +kernel
theorem d_M_paid_17 : decode b_M_paid 17 = .ok (.iconst 0, 1) := by decide +kernel
theorem d_M_paid_18 : decode b_M_paid 18 = .ok (.ireturn, 1) := by decide +kernel
theorem d_M_paid_19 : decode b_M_paid 19 = .ok (.aload_n 0, 1) := by decide +kernel
theorem d_M_paid_20 : decode b_M_paid 20 = .ok (.dup, 1) := by decide +kernel
theorem d_M_paid_21 : decode b_M_paid 21 = .ok (.getfield 67, 3) := by decide +kernel
theorem d_M_paid_24 : decode b_M_paid 24 = .ok (.iconst 1, 1) := by decide +kernel
theorem d_M_paid_25 : decode b_M_paid 25 = .ok (.iadd, 1) := by decide +kernel
theorem d_M_paid_26 : decode b_M_paid 26 = .ok (.putfield 67, 3) := by decide +kernel
theorem d_M_paid_29 : decode b_M_paid 29 = .ok (.aload_n 0, 1) := by decide +kernel
theorem d_M_paid_30 : decode b_M_paid 30 = .ok (.iload_n 1, 1) := by decide +kernel
theorem d_M_paid_31 : decode b_M_paid 31 = .ok (.invokevirtual 82, 3) := by decide +kernel
theorem d_M_paid_34 : decode b_M_paid 34 = .ok (.ireturn, 1) := by decide +kernel
theorem d_M_ask_0 : decode b_M_ask 0 = .ok (.aload_n 0, 1) := by decide +kernel
theorem d_M_ask_1 : decode b_M_ask 1 = .ok (.getfield 26, 3) := by decide +kernel
theorem d_M_ask_4 : decode b_M_ask 4 = .ok (.iload_n 1, 1) := by decide +kernel
theorem d_M_ask_5 : decode b_M_ask 5 = .ok (.iload_n 3, 1) := by decide +kernel
theorem d_M_ask_6 : decode b_M_ask 6 = .ok (.iastore, 1) := by decide +kernel
theorem d_M_ask_7 : decode b_M_ask 7 = .ok (.aload_n 0, 1) := by decide +kernel
theorem d_M_ask_8 : decode b_M_ask 8 = .ok (.getfield 43, 3) := by decide +kernel
theorem d_M_ask_11 : decode b_M_ask 11 = .ok (.aload_n 0, 1) := by decide +kernel
theorem d_M_ask_12 : decode b_M_ask 12 = .ok (.getfield 86, 3) := by decide +kernel
theorem d_M_ask_15 : decode b_M_ask 15 = .ok (.aload_n 0, 1) := by decide +kernel
theorem d_M_ask_16 : decode b_M_ask 16 = .ok (.getfield 16, 3) := by decide +kernel
theorem d_M_ask_19 : decode b_M_ask 19 = .ok (.iconst 3, 1) := by decide +kernel
theorem d_M_ask_20 : decode b_M_ask 20 = .ok (.iload_n 1, 1) := by decide +kernel
theorem d_M_ask_21 : decode b_M_ask 21 = .ok (.imul, 1) := by decide +kernel
theorem d_M_ask_22 : decode b_M_ask 22 = .ok (.iload_n 2, 1) := by decide +kernel
theorem d_M_ask_23 : decode b_M_ask 23 = .ok (.iadd, 1) := by decide +kernel
theorem d_M_ask_24 : decode b_M_ask 24 = .ok (.iaload, 1) := by decide +kernel
theorem d_M_ask_25 : decode b_M_ask 25 = .ok (.iastore, 1) := by decide +kernel
theorem d_M_ask_26 : decode b_M_ask 26 = .ok (.aload_n 0, 1) := by decide +kernel
theorem d_M_ask_27 : decode b_M_ask 27 = .ok (.dup, 1) := by decide +kernel
theorem d_M_ask_28 : decode b_M_ask 28 = .ok (.getfield 86, 3) := by decide +kernel
theorem d_M_ask_31 : decode b_M_ask 31 = .ok (.iconst 1, 1) := by decide +kernel
