/-! decoded rows -/
theorem d_F_init_0 : decode b_F_init 0 = .ok (.aload_n 0, 1) := by decide +kernel
theorem d_F_init_1 : decode b_F_init 1 = .ok (.invokespecial 1, 3) := by decide +kernel
theorem d_F_init_4 : decode b_F_init 4 = .ok (.aload_n 0, 1) := by decide +kernel
theorem d_F_init_5 : decode b_F_init 5 = .ok (.bipush 60, 2) := by decide +kernel
theorem d_F_init_7 : decode b_F_init 7 = .ok (.newarray .int, 2) := by decide +kernel
theorem d_F_init_9 : decode b_F_init 9 = .ok (.putfield 9, 3) := by decide +kernel
theorem d_F_init_12 : decode b_F_init 12 = .ok (.aload_n 0, 1) := by decide +kernel
theorem d_F_init_13 : decode b_F_init 13 = .ok (.bipush 60, 2) := by decide +kernel
theorem d_F_init_15 : decode b_F_init 15 = .ok (.newarray .int, 2) := by decide +kernel
theorem d_F_init_17 : decode b_F_init 17 = .ok (.putfield 13, 3) := by decide +kernel
theorem d_F_init_20 : decode b_F_init 20 = .ok (.aload_n 0, 1) := by decide +kernel
theorem d_F_init_21 : decode b_F_init 21 = .ok (.bipush 60, 2) := by decide +kernel
theorem d_F_init_23 : decode b_F_init 23 = .ok (.newarray .int, 2) := by decide +kernel
theorem d_F_init_25 : decode b_F_init 25 = .ok (.putfield 16, 3) := by decide +kernel
theorem d_F_init_28 : decode b_F_init 28 = .ok (.aload_n 0, 1) := by decide +kernel
theorem d_F_init_29 : decode b_F_init 29 = .ok (.bipush 60, 2) := by decide +kernel
theorem d_F_init_31 : decode b_F_init 31 = .ok (.newarray .int, 2) := by decide +kernel
theorem d_F_init_33 : decode b_F_init 33 = .ok (.putfield 19, 3) := by decide +kernel
theorem d_F_init_36 : decode b_F_init 36 = .ok (.aload_n 0, 1) := by decide +kernel
theorem d_F_init_37 : decode b_F_init 37 = .ok (.bipush 60, 2) := by decide +kernel
theorem d_F_init_39 : decode b_F_init 39 = .ok (.newarray .int, 2) := by decide +kernel
theorem d_F_init_41 : decode b_F_init 41 = .ok (.putfield 22, 3) := by decide +kernel
theorem d_F_init_44 : decode b_F_init 44 = .ok (.aload_n 0, 1) := by decide +kernel
theorem d_F_init_45 : decode b_F_init 45 = .ok (.bipush 60, 2) := by decide +kernel
theorem d_F_init_47 : decode b_F_init 47 = .ok (.newarray .int, 2) := by decide +kernel
theorem d_F_init_49 : decode b_F_init 49 = .ok (.putfield 25, 3) := by decide +kernel
theorem d_F_init_52 : decode b_F_init 52 = .ok (.aload_n 0, 1) := by decide +kernel
theorem d_F_init_53 : decode b_F_init 53 = .ok (.bipush 60, 2) := by decide +kernel
theorem d_F_init_55 : decode b_F_init 55 = .ok (.newarray .boolean, 2) := by decide +kernel
theorem d_F_init_57 : decode b_F_init 57 = .ok (.putfield 28, 3) := by decide +kernel
theorem d_F_init_60 : decode b_F_init 60 = .ok (.aload_n 0, 1) := by decide +kernel
theorem d_F_init_61 : decode b_F_init 61 = .ok (.iconst 0, 1) := by decide +kernel
theorem d_F_init_62 : decode b_F_init 62 = .ok (.putfield 32, 3) := by decide +kernel
theorem d_F_init_65 : decode b_F_init 65 = .ok (.return_, 1) := by decide +kernel
theorem d_F_has_0 : decode b_F_has 0 = .ok (.iload_n 1, 1) := by decide +kernel
theorem d_F_has_1 : decode b_F_has 1 = .ok (.aload_n 0, 1) := by decide +kernel
theorem d_F_has_2 : decode b_F_has 2 = .ok (.getfield 32, 3) := by decide +kernel
theorem d_F_has_5 : decode b_F_has 5 = .ok (.invokestatic 36, 3) := by decide +kernel
theorem d_F_has_8 : decode b_F_has 8 = .ok (.ireturn, 1) := by decide +kernel
theorem d_F_isFull_0 : decode b_F_isFull 0 = .ok (.aload_n 0, 1) := by decide +kernel
theorem d_F_isFull_1 : decode b_F_isFull 1 = .ok (.getfield 32, 3) := by decide +kernel
theorem d_F_isFull_4 : decode b_F_isFull 4 = .ok (.bipush 60, 2) := by decide +kernel
theorem d_F_isFull_6 : decode b_F_isFull 6 = .ok (.if_icmp .lt 7, 3) := by decide +kernel
theorem d_F_isFull_9 : decode b_F_isFull 9 = .ok (.iconst 1, 1) := by decide +kernel
theorem d_F_isFull_10 : decode b_F_isFull 10 = .ok (.goto 4, 3) := by decide +kernel
theorem d_F_isFull_13 : decode b_F_isFull 13 = .ok (.iconst 0, 1) := by decide +kernel
theorem d_F_isFull_14 : decode b_F_isFull 14 = .ok (.ireturn, 1) := by decide +kernel
theorem d_F_depthOver_0 : decode b_F_depthOver 0 = .ok (.iconst 1, 1) := by decide +kernel
theorem d_F_depthOver_1 : decode b_F_depthOver 1 = .ok (.aload_n 0, 1) := by decide +kernel
theorem d_F_depthOver_2 : decode b_F_depthOver 2 = .ok (.getfield 25, 3) := by decide +kernel
theorem d_F_depthOver_5 : decode b_F_depthOver 5 = .ok (.iload_n 1, 1) := by decide +kernel
theorem d_F_depthOver_6 : decode b_F_depthOver 6 = .ok (.iaload, 1) := by decide +kernel
theorem d_F_depthOver_7 : decode b_F_depthOver 7 = .ok (.aload_n 0, 1) := by decide +kernel
theorem d_F_depthOver_8 : decode b_F_depthOver 8 = .ok (.getfield 25, 3) := by decide +kernel
theorem d_F_depthOver_11 : decode b_F_depthOver 11 = .ok (.iload_n 2, 1) := by decide +kernel
theorem d_F_depthOver_12 : decode b_F_depthOver 12 = .ok (.iaload, 1) := by decide +kernel
theorem d_F_depthOver_13 : decode b_F_depthOver 13 = .ok (.aload_n 0, 1) := by decide +kernel
theorem d_F_depthOver_14 : decode b_F_depthOver 14 = .ok (.getfield 25, 3) := by decide +kernel
theorem d_F_depthOver_17 : decode b_F_depthOver 17 = .ok (.iload_n 3, 1) := by decide +kernel
theorem d_F_depthOver_18 : decode b_F_depthOver 18 = .ok (.iaload, 1) := by decide +kernel
theorem d_F_depthOver_19 : decode b_F_depthOver 19 = .ok (.invokestatic 42, 3) := by decide +kernel
theorem d_F_depthOver_22 : decode b_F_depthOver 22 = .ok (.invokestatic 42, 3) := by decide +kernel
theorem d_F_depthOver_25 : decode b_F_depthOver 25 = .ok (.iadd, 1) := by decide +kernel
theorem d_F_depthOver_26 : decode b_F_depthOver 26 = .ok (.ireturn, 1) := by decide +kernel
theorem d_F_addLeaf_0 : decode b_F_addLeaf 0 = .ok (.aload_n 0, 1) := by decide +kernel
theorem d_F_addLeaf_1 : decode b_F_addLeaf 1 = .ok (.getfield 32, 3) := by decide +kernel
theorem d_F_addLeaf_4 : decode b_F_addLeaf 4 = .ok (.istore_n 3, 1) := by decide +kernel
theorem d_F_addLeaf_5 : decode b_F_addLeaf 5 = .ok (.aload_n 0, 1) := by decide +kernel
theorem d_F_addLeaf_6 : decode b_F_addLeaf 6 = .ok (.getfield 9, 3) := by decide +kernel
theorem d_F_addLeaf_9 : decode b_F_addLeaf 9 = .ok (.iload_n 3, 1) := by decide +kernel
theorem d_F_addLeaf_10 : decode b_F_addLeaf 10 = .ok (.iload_n 1, 1) := by decide +kernel
theorem d_F_addLeaf_11 : decode b_F_addLeaf 11 = .ok (.iastore, 1) := by decide +kernel
theorem d_F_addLeaf_12 : decode b_F_addLeaf 12 = .ok (.aload_n 0, 1) := by decide +kernel
theorem d_F_addLeaf_13 : decode b_F_addLeaf 13 = .ok (.getfield 13, 3) := by decide +kernel
theorem d_F_addLeaf_16 : decode b_F_addLeaf 16 = .ok (.iload_n 3, 1) := by decide +kernel
theorem d_F_addLeaf_17 : decode b_F_addLeaf 17 = .ok (.iload_n 2, 1) := by decide +kernel
theorem d_F_addLeaf_18 : decode b_F_addLeaf 18 = .ok (.iastore, 1) := by decide +kernel
theorem d_F_addLeaf_19 : decode b_F_addLeaf 19 = .ok (.aload_n 0, 1) := by decide +kernel
theorem d_F_addLeaf_20 : decode b_F_addLeaf 20 = .ok (.getfield 25, 3) := by decide +kernel
theorem d_F_addLeaf_23 : decode b_F_addLeaf 23 = .ok (.iload_n 3, 1) := by decide +kernel
theorem d_F_addLeaf_24 : decode b_F_addLeaf 24 = .ok (.iconst 1, 1) := by decide +kernel
theorem d_F_addLeaf_25 : decode b_F_addLeaf 25 = .ok (.iastore, 1) := by decide +kernel
theorem d_F_addLeaf_26 : decode b_F_addLeaf 26 = .ok (.aload_n 0, 1) := by decide +kernel
theorem d_F_addLeaf_27 : decode b_F_addLeaf 27 = .ok (.getfield 28, 3) := by decide +kernel
theorem d_F_addLeaf_30 : decode b_F_addLeaf 30 = .ok (.iload_n 3, 1) := by decide +kernel
theorem d_F_addLeaf_31 : decode b_F_addLeaf 31 = .ok (.iconst 1, 1) := by decide +kernel
theorem d_F_addLeaf_32 : decode b_F_addLeaf 32 = .ok (.bastore, 1) := by decide +kernel
theorem d_F_addLeaf_33 : decode b_F_addLeaf 33 = .ok (.aload_n 0, 1) := by decide +kernel
theorem d_F_addLeaf_34 : decode b_F_addLeaf 34 = .ok (.dup, 1) := by decide +kernel
theorem d_F_addLeaf_35 : decode b_F_addLeaf 35 = .ok (.getfield 32, 3) := by decide +kernel
theorem d_F_addLeaf_38 : decode b_F_addLeaf 38 = .ok (.iconst 1, 1) := by decide +kernel
theorem d_F_addLeaf_39 : decode b_F_addLeaf 39 = .ok (.iadd, 1) := by decide +kernel
theorem d_F_addLeaf_40 : decode b_F_addLeaf 40 = .ok (.putfield 32, 3) := by decide +kernel
theorem d_F_addLeaf_43 : decode b_F_addLeaf 43 = .ok (.iload_n 3, 1) := by decide +kernel
theorem d_F_addLeaf_44 : decode b_F_addLeaf 44 = .ok (.ireturn, 1) := by decide +kernel
theorem d_F_addOver_0 : decode b_F_addOver 0 = .ok (.aload_n 0, 1) := by decide +kernel
theorem d_F_addOver_1 : decode b_F_addOver 1 = .ok (.iload_n 1, 1) := by decide +kernel
theorem d_F_addOver_2 : decode b_F_addOver 2 = .ok (.iload_n 2, 1) := by decide +kernel
theorem d_F_addOver_3 : decode b_F_addOver 3 = .ok (.invokevirtual 48, 3) := by decide +kernel
theorem d_F_addOver_6 : decode b_F_addOver 6 = .ok (.istore 6, 2) := by decide +kernel
theorem d_F_addOver_8 : decode b_F_addOver 8 = .ok (.aload_n 0, 1) := by decide +kernel
theorem d_F_addOver_9 : decode b_F_addOver 9 = .ok (.getfield 16, 3) := by decide +kernel
theorem d_F_addOver_12 : decode b_F_addOver 12 = .ok (.iload 6, 2) := by decide +kernel
theorem d_F_addOver_14 : decode b_F_addOver 14 = .ok (.iload_n 3, 1) := by decide +kernel
theorem d_F_addOver_15 : decode b_F_addOver 15 = .ok (.iastore, 1) := by decide +kernel
theorem d_F_addOver_16 : decode b_F_addOver 16 = .ok (.aload_n 0, 1) := by decide +kernel
theorem d_F_addOver_17 : decode b_F_addOver 17 = .ok (.getfield 19, 3) := by decide +kernel
theorem d_F_addOver_20 : decode b_F_addOver 20 = .ok (.iload 6, 2) := by decide +kernel
theorem d_F_addOver_22 : decode b_F_addOver 22 = .ok (.iload 4, 2) := by decide +kernel
theorem d_F_addOver_24 : decode b_F_addOver 24 = .ok (.iastore, 1) := by decide +kernel
theorem d_F_addOver_25 : decode b_F_addOver 25 = .ok (.aload_n 0, 1) := by decide +kernel
theorem d_F_addOver_26 : decode b_F_addOver 26 = .ok (.getfield 22, 3) := by decide +kernel
theorem d_F_addOver_29 : decode b_F_addOver 29 = .ok (.iload 6, 2) := by decide +kernel
theorem d_F_addOver_31 : decode b_F_addOver 31 = .ok (.iload 5, 2) := by decide +kernel
theorem d_F_addOver_33 : decode b_F_addOver 33 = .ok (.iastore, 1) := by decide +kernel
theorem d_F_addOver_34 : decode b_F_addOver 34 = .ok (.aload_n 0, 1) := by decide +kernel
theorem d_F_addOver_35 : decode b_F_addOver 35 = .ok (.getfield 25, 3) := by decide +kernel
theorem d_F_addOver_38 : decode b_F_addOver 38 = .ok (.iload 6, 2) := by decide +kernel
theorem d_F_addOver_40 : decode b_F_addOver 40 = .ok (.aload_n 0, 1) := by decide +kernel
theorem d_F_addOver_41 : decode b_F_addOver 41 = .ok (.iload_n 3, 1) := by decide +kernel
theorem d_F_addOver_42 : decode b_F_addOver 42 = .ok (.iload 4, 2) := by decide +kernel
theorem d_F_addOver_44 : decode b_F_addOver 44 = .ok (.iload 5, 2) := by decide +kernel
theorem d_F_addOver_46 : decode b_F_addOver 46 = .ok (.invokevirtual 51, 3) := by decide +kernel
theorem d_F_addOver_49 : decode b_F_addOver 49 = .ok (.iastore, 1) := by decide +kernel
theorem d_F_addOver_50 : decode b_F_addOver 50 = .ok (.aload_n 0, 1) := by decide +kernel
theorem d_F_addOver_51 : decode b_F_addOver 51 = .ok (.getfield 28, 3) := by decide +kernel
theorem d_F_addOver_54 : decode b_F_addOver 54 = .ok (.iload_n 3, 1) := by decide +kernel
theorem d_F_addOver_55 : decode b_F_addOver 55 = .ok (.iconst 0, 1) := by decide +kernel
theorem d_F_addOver_56 : decode b_F_addOver 56 = .ok (.bastore, 1) := by decide +kernel
theorem d_F_addOver_57 : decode b_F_addOver 57 = .ok (.aload_n 0, 1) := by decide +kernel
theorem d_F_addOver_58 : decode b_F_addOver 58 = .ok (.getfield 28, 3) := by decide +kernel
theorem d_F_addOver_61 : decode b_F_addOver 61 = .ok (.iload 4, 2) := by decide +kernel
theorem d_F_addOver_63 : decode b_F_addOver 63 = .ok (.iconst 0, 1) := by decide +kernel
theorem d_F_addOver_64 : decode b_F_addOver 64 = .ok (.bastore, 1) := by decide +kernel
theorem d_F_addOver_65 : decode b_F_addOver 65 = .ok (.aload_n 0, 1) := by decide +kernel
theorem d_F_addOver_66 : decode b_F_addOver 66 = .ok (.getfield 28, 3) := by decide +kernel
theorem d_F_addOver_69 : decode b_F_addOver 69 = .ok (.iload 5, 2) := by decide +kernel
theorem d_F_addOver_71 : decode b_F_addOver 71 = .ok (.iconst 0, 1) := by decide +kernel
theorem d_F_addOver_72 : decode b_F_addOver 72 = .ok (.bastore, 1) := by decide +kernel
theorem d_F_addOver_73 : decode b_F_addOver 73 = .ok (.iload 6, 2) := by decide +kernel
theorem d_F_addOver_75 : decode b_F_addOver 75 = .ok (.ireturn, 1) := by decide +kernel
theorem d_G_init_0 : decode b_G_init 0 = .ok (.aload_n 0, 1) := by decide +kernel
theorem d_G_init_1 : decode b_G_init 1 = .ok (.invokespecial 1, 3) := by decide +kernel
theorem d_G_init_4 : decode b_G_init 4 = .ok (.aload_n 0, 1) := by decide +kernel
theorem d_G_init_5 : decode b_G_init 5 = .ok (.new 7, 3) := by decide +kernel
theorem d_G_init_8 : decode b_G_init 8 = .ok (.dup, 1) := by decide +kernel
theorem d_G_init_9 : decode b_G_init 9 = .ok (.invokespecial 9, 3) := by decide +kernel
theorem d_G_init_12 : decode b_G_init 12 = .ok (.putfield 10, 3) := by decide +kernel
theorem d_G_init_15 : decode b_G_init 15 = .ok (.aload_n 0, 1) := by decide +kernel
theorem d_G_init_16 : decode b_G_init 16 = .ok (.aload_n 0, 1) := by decide +kernel
theorem d_G_init_17 : decode b_G_init 17 = .ok (.getfield 10, 3) := by decide +kernel
theorem d_G_init_20 : decode b_G_init 20 = .ok (.getfield 16, 3) := by decide +kernel
theorem d_G_init_23 : decode b_G_init 23 = .ok (.putfield 20, 3) := by decide +kernel
theorem d_G_init_26 : decode b_G_init 26 = .ok (.return_, 1) := by decide +kernel
theorem d_G_leaf_0 : decode b_G_leaf 0 = .ok (.iload_n 1, 1) := by decide +kernel
theorem d_G_leaf_1 : decode b_G_leaf 1 = .ok (.iconst 2, 1) := by decide +kernel
theorem d_G_leaf_2 : decode b_G_leaf 2 = .ok (.invokestatic 21, 3) := by decide +kernel
theorem d_G_leaf_5 : decode b_G_leaf 5 = .ok (.ifCond .ne 5, 3) := by decide +kernel
theorem d_G_leaf_8 : decode b_G_leaf 8 = .ok (.iconst (-1), 1) := by decide +kernel
theorem d_G_leaf_9 : decode b_G_leaf 9 = .ok (.ireturn, 1) := by decide +kernel
theorem d_G_leaf_10 : decode b_G_leaf 10 = .ok (.iconst 0, 1) := by decide +kernel
theorem d_G_leaf_11 : decode b_G_leaf 11 = .ok (.iload_n 1, 1) := by decide +kernel
theorem d_G_leaf_12 : decode b_G_leaf 12 = .ok (.iadd, 1) := by decide +kernel
theorem d_G_leaf_13 : decode b_G_leaf 13 = .ok (.istore_n 3, 1) := by decide +kernel
theorem d_G_leaf_14 : decode b_G_leaf 14 = .ok (.iload_n 3, 1) := by decide +kernel
theorem d_G_leaf_15 : decode b_G_leaf 15 = .ok (.iconst 1, 1) := by decide +kernel
theorem d_G_leaf_16 : decode b_G_leaf 16 = .ok (.if_icmp .ne 14, 3) := by decide +kernel
theorem d_G_leaf_19 : decode b_G_leaf 19 = .ok (.iload_n 2, 1) := by decide +kernel
theorem d_G_leaf_20 : decode b_G_leaf 20 = .ok (.bipush 8, 2) := by decide +kernel
theorem d_G_leaf_22 : decode b_G_leaf 22 = .ok (.invokestatic 21, 3) := by decide +kernel
theorem d_G_leaf_25 : decode b_G_leaf 25 = .ok (.ifCond .ne 5, 3) := by decide +kernel
theorem d_G_leaf_28 : decode b_G_leaf 28 = .ok (.iconst (-1), 1) := by decide +kernel
theorem d_G_leaf_29 : decode b_G_leaf 29 = .ok (.ireturn, 1) := by decide +kernel
theorem d_G_leaf_30 : decode b_G_leaf 30 = .ok (.aload_n 0, 1) := by decide +kernel
theorem d_G_leaf_31 : decode b_G_leaf 31 = .ok (.getfield 20, 3) := by decide +kernel
theorem d_G_leaf_34 : decode b_G_leaf 34 = .ok (.invokevirtual 27, 3) := by decide +kernel
theorem d_G_leaf_37 : decode b_G_leaf 37 = .ok (.ifCond .eq 6, 3) := by decide +kernel
theorem d_G_leaf_40 : decode b_G_leaf 40 = .ok (.bipush (-4), 2) := by decide +kernel
theorem d_G_leaf_42 : decode b_G_leaf 42 = .ok (.ireturn, 1) := by decide +kernel
theorem d_G_leaf_43 : decode b_G_leaf 43 = .ok (.aload_n 0, 1) := by decide +kernel
theorem d_G_leaf_44 : decode b_G_leaf 44 = .ok (.getfield 20, 3) := by decide +kernel
theorem d_G_leaf_47 : decode b_G_leaf 47 = .ok (.iload_n 3, 1) := by decide +kernel
theorem d_G_leaf_48 : decode b_G_leaf 48 = .ok (.iload_n 2, 1) := by decide +kernel
theorem d_G_leaf_49 : decode b_G_leaf 49 = .ok (.invokevirtual 31, 3) := by decide +kernel
theorem d_G_leaf_52 : decode b_G_leaf 52 = .ok (.ireturn, 1) := by decide +kernel
theorem d_G_unary_0 : decode b_G_unary 0 = .ok (.iload_n 1, 1) := by decide +kernel
theorem d_G_unary_1 : decode b_G_unary 1 = .ok (.iconst 4, 1) := by decide +kernel
theorem d_G_unary_2 : decode b_G_unary 2 = .ok (.invokestatic 21, 3) := by decide +kernel
theorem d_G_unary_5 : decode b_G_unary 5 = .ok (.ifCond .ne 5, 3) := by decide +kernel
theorem d_G_unary_8 : decode b_G_unary 8 = .ok (.iconst (-1), 1) := by decide +kernel
theorem d_G_unary_9 : decode b_G_unary 9 = .ok (.ireturn, 1) := by decide +kernel
theorem d_G_unary_10 : decode b_G_unary 10 = .ok (.iconst 2, 1) := by decide +kernel
theorem d_G_unary_11 : decode b_G_unary 11 = .ok (.iload_n 1, 1) := by decide +kernel
theorem d_G_unary_12 : decode b_G_unary 12 = .ok (.iadd, 1) := by decide +kernel
theorem d_G_unary_13 : decode b_G_unary 13 = .ok (.istore 4, 2) := by decide +kernel
theorem d_G_unary_15 : decode b_G_unary 15 = .ok (.iload 4, 2) := by decide +kernel
theorem d_G_unary_17 : decode b_G_unary 17 = .ok (.iconst 2, 1) := by decide +kernel
theorem d_G_unary_18 : decode b_G_unary 18 = .ok (.if_icmp .ne 14, 3) := by decide +kernel
theorem d_G_unary_21 : decode b_G_unary 21 = .ok (.iload_n 2, 1) := by decide +kernel
theorem d_G_unary_22 : decode b_G_unary 22 = .ok (.bipush 8, 2) := by decide +kernel
theorem d_G_unary_24 : decode b_G_unary 24 = .ok (.invokestatic 21, 3) := by decide +kernel
theorem d_G_unary_27 : decode b_G_unary 27 = .ok (.ifCond .ne 5, 3) := by decide +kernel
theorem d_G_unary_30 : decode b_G_unary 30 = .ok (.iconst (-1), 1) := by decide +kernel
theorem d_G_unary_31 : decode b_G_unary 31 = .ok (.ireturn, 1) := by decide +kernel
theorem d_G_unary_32 : decode b_G_unary 32 = .ok (.aload_n 0, 1) := by decide +kernel
theorem d_G_unary_33 : decode b_G_unary 33 = .ok (.iload 4, 2) := by decide +kernel
theorem d_G_unary_35 : decode b_G_unary 35 = .ok (.iload_n 2, 1) := by decide +kernel
theorem d_G_unary_36 : decode b_G_unary 36 = .ok (.iload_n 3, 1) := by decide +kernel
theorem d_G_unary_37 : decode b_G_unary 37 = .ok (.iload_n 3, 1) := by decide +kernel
theorem d_G_unary_38 : decode b_G_unary 38 = .ok (.iload_n 3, 1) := by decide +kernel
theorem d_G_unary_39 : decode b_G_unary 39 = .ok (.iconst 0, 1) := by decide +kernel
theorem d_G_unary_40 : decode b_G_unary 40 = .ok (.invokevirtual 35, 3) := by decide +kernel
theorem d_G_unary_43 : decode b_G_unary 43 = .ok (.ireturn, 1) := by decide +kernel
theorem d_G_binary_0 : decode b_G_binary 0 = .ok (.iload_n 1, 1) := by decide +kernel
theorem d_G_binary_1 : decode b_G_binary 1 = .ok (.bipush 12, 2) := by decide +kernel
theorem d_G_binary_3 : decode b_G_binary 3 = .ok (.invokestatic 21, 3) := by decide +kernel
theorem d_G_binary_6 : decode b_G_binary 6 = .ok (.ifCond .ne 5, 3) := by decide +kernel
theorem d_G_binary_9 : decode b_G_binary 9 = .ok (.iconst (-1), 1) := by decide +kernel
theorem d_G_binary_10 : decode b_G_binary 10 = .ok (.ireturn, 1) := by decide +kernel
theorem d_G_binary_11 : decode b_G_binary 11 = .ok (.aload_n 0, 1) := by decide +kernel
theorem d_G_binary_12 : decode b_G_binary 12 = .ok (.bipush 6, 2) := by decide +kernel
theorem d_G_binary_14 : decode b_G_binary 14 = .ok (.iload_n 1, 1) := by decide +kernel
theorem d_G_binary_15 : decode b_G_binary 15 = .ok (.iadd, 1) := by decide +kernel
theorem d_G_binary_16 : decode b_G_binary 16 = .ok (.iconst 0, 1) := by decide +kernel
theorem d_G_binary_17 : decode b_G_binary 17 = .ok (.iload_n 2, 1) := by decide +kernel
theorem d_G_binary_18 : decode b_G_binary 18 = .ok (.iload_n 3, 1) := by decide +kernel
theorem d_G_binary_19 : decode b_G_binary 19 = .ok (.iload_n 3, 1) := by decide +kernel
theorem d_G_binary_20 : decode b_G_binary 20 = .ok (.iload_n 2, 1) := by decide +kernel
theorem d_G_binary_21 : decode b_G_binary 21 = .ok (.iload_n 3, 1) := by decide +kernel
theorem d_G_binary_22 : decode b_G_binary 22 = .ok (.if_icmp .ne 7, 3) := by decide +kernel
theorem d_G_binary_25 : decode b_G_binary 25 = .ok (.iconst 1, 1) := by decide +kernel
theorem d_G_binary_26 : decode b_G_binary 26 = .ok (.goto 4, 3) := by decide +kernel
theorem d_G_binary_29 : decode b_G_binary 29 = .ok (.iconst 0, 1) := by decide +kernel
theorem d_G_binary_30 : decode b_G_binary 30 = .ok (.invokevirtual 35, 3) := by decide +kernel
theorem d_G_binary_33 : decode b_G_binary 33 = .ok (.ireturn, 1) := by decide +kernel
theorem d_G_ternary_0 : decode b_G_ternary 0 = .ok (.iload_n 1, 1) := by decide +kernel
theorem d_G_ternary_1 : decode b_G_ternary 1 = .ok (.iconst 2, 1) := by decide +kernel
theorem d_G_ternary_2 : decode b_G_ternary 2 = .ok (.invokestatic 21, 3) := by decide +kernel
theorem d_G_ternary_5 : decode b_G_ternary 5 = .ok (.ifCond .ne 5, 3) := by decide +kernel
theorem d_G_ternary_8 : decode b_G_ternary 8 = .ok (.iconst (-1), 1) := by decide +kernel
theorem d_G_ternary_9 : decode b_G_ternary 9 = .ok (.ireturn, 1) := by decide +kernel
theorem d_G_ternary_10 : decode b_G_ternary 10 = .ok (.aload_n 0, 1) := by decide +kernel
theorem d_G_ternary_11 : decode b_G_ternary 11 = .ok (.bipush 18, 2) := by decide +kernel
theorem d_G_ternary_13 : decode b_G_ternary 13 = .ok (.iload_n 1, 1) := by decide +kernel
theorem d_G_ternary_14 : decode b_G_ternary 14 = .ok (.iadd, 1) := by decide +kernel
theorem d_G_ternary_15 : decode b_G_ternary 15 = .ok (.iconst 0, 1) := by decide +kernel
theorem d_G_ternary_16 : decode b_G_ternary 16 = .ok (.iload_n 2, 1) := by decide +kernel
theorem d_G_ternary_17 : decode b_G_ternary 17 = .ok (.iload_n 3, 1) := by decide +kernel
theorem d_G_ternary_18 : decode b_G_ternary 18 = .ok (.iload 4, 2) := by decide +kernel
theorem d_G_ternary_20 : decode b_G_ternary 20 = .ok (.iload_n 2, 1) := by decide +kernel
theorem d_G_ternary_21 : decode b_G_ternary 21 = .ok (.iload_n 3, 1) := by decide +kernel
theorem d_G_ternary_22 : decode b_G_ternary 22 = .ok (.if_icmp .eq 15, 3) := by decide +kernel
theorem d_G_ternary_25 : decode b_G_ternary 25 = .ok (.iload_n 3, 1) := by decide +kernel
theorem d_G_ternary_26 : decode b_G_ternary 26 = .ok (.iload 4, 2) := by decide +kernel
theorem d_G_ternary_28 : decode b_G_ternary 28 = .ok (.if_icmp .eq 9, 3) := by decide +kernel
theorem d_G_ternary_31 : decode b_G_ternary 31 = .ok (.iload_n 2, 1) := by decide +kernel
theorem d_G_ternary_32 : decode b_G_ternary 32 = .ok (.iload 4, 2) := by decide +kernel
theorem d_G_ternary_34 : decode b_G_ternary 34 = .ok (.if_icmp .ne 7, 3) := by decide +kernel
theorem d_G_ternary_37 : decode b_G_ternary 37 = .ok (.iconst 1, 1) := by decide +kernel
theorem d_G_ternary_38 : decode b_G_ternary 38 = .ok (.goto 4, 3) := by decide +kernel
theorem d_G_ternary_41 : decode b_G_ternary 41 = .ok (.iconst 0, 1) := by decide +kernel
theorem d_G_ternary_42 : decode b_G_ternary 42 = .ok (.invokevirtual 35, 3) := by decide +kernel
theorem d_G_ternary_45 : decode b_G_ternary 45 = .ok (.ireturn, 1) := by decide +kernel
theorem d_G_expressions_0 : decode b_G_expressions 0 = .ok (.aload_n 0, 1) := by decide +kernel
theorem d_G_expressions_1 : decode b_G_expressions 1 = .ok (.getfield 20, 3) := by decide +kernel
theorem d_G_expressions_4 : decode b_G_expressions 4 = .ok (.getfield 39, 3) := by decide +kernel
theorem d_G_expressions_7 : decode b_G_expressions 7 = .ok (.ireturn, 1) := by decide +kernel
theorem d_G_about_0 : decode b_G_about 0 = .ok (.aload_n 0, 1) := by decide +kernel
theorem d_G_about_1 : decode b_G_about 1 = .ok (.getfield 20, 3) := by decide +kernel
theorem d_G_about_4 : decode b_G_about 4 = .ok (.iload_n 1, 1) := by decide +kernel
theorem d_G_about_5 : decode b_G_about 5 = .ok (.invokevirtual 43, 3) := by decide +kernel
theorem d_G_about_8 : decode b_G_about 8 = .ok (.ifCond .ne 6, 3) := by decide +kernel
theorem d_G_about_11 : decode b_G_about 11 = .ok (.bipush (-2), 2) := by decide +kernel
theorem d_G_about_13 : decode b_G_about 13 = .ok (.ireturn, 1) := by decide +kernel
theorem d_G_about_14 : decode b_G_about 14 = .ok (.aload_n 0, 1) := by decide +kernel
theorem d_G_about_15 : decode b_G_about 15 = .ok (.getfield 20, 3) := by decide +kernel
theorem d_G_about_18 : decode b_G_about 18 = .ok (.getfield 47, 3) := by decide +kernel
theorem d_G_about_21 : decode b_G_about 21 = .ok (.iload_n 1, 1) := by decide +kernel
theorem d_G_about_22 : decode b_G_about 22 = .ok (.iaload, 1) := by decide +kernel
theorem d_G_about_23 : decode b_G_about 23 = .ok (.aload_n 0, 1) := by decide +kernel
theorem d_G_about_24 : decode b_G_about 24 = .ok (.getfield 20, 3) := by decide +kernel
theorem d_G_about_27 : decode b_G_about 27 = .ok (.getfield 51, 3) := by decide +kernel
theorem d_G_about_30 : decode b_G_about 30 = .ok (.iload_n 1, 1) := by decide +kernel
theorem d_G_about_31 : decode b_G_about 31 = .ok (.baload, 1) := by decide +kernel
theorem d_G_about_32 : decode b_G_about 32 = .ok (.ifCond .eq 8, 3) := by decide +kernel
theorem d_G_about_35 : decode b_G_about 35 = .ok (.bipush 32, 2) := by decide +kernel
theorem d_G_about_37 : decode b_G_about 37 = .ok (.goto 4, 3) := by decide +kernel
theorem d_G_about_40 : decode b_G_about 40 = .ok (.iconst 0, 1) := by decide +kernel
theorem d_G_about_41 : decode b_G_about 41 = .ok (.iadd, 1) := by decide +kernel
theorem d_G_about_42 : decode b_G_about 42 = .ok (.ireturn, 1) := by decide +kernel
theorem d_G_set_0 : decode b_G_set 0 = .ok (.iload_n 1, 1) := by decide +kernel
theorem d_G_set_1 : decode b_G_set 1 = .ok (.bipush 8, 2) := by decide +kernel
theorem d_G_set_3 : decode b_G_set 3 = .ok (.invokestatic 21, 3) := by decide +kernel
theorem d_G_set_6 : decode b_G_set 6 = .ok (.ifCond .ne 5, 3) := by decide +kernel
theorem d_G_set_9 : decode b_G_set 9 = .ok (.iconst 0, 1) := by decide +kernel
theorem d_G_set_10 : decode b_G_set 10 = .ok (.ireturn, 1) := by decide +kernel
theorem d_G_set_11 : decode b_G_set 11 = .ok (.aload_n 0, 1) := by decide +kernel
theorem d_G_set_12 : decode b_G_set 12 = .ok (.getfield 10, 3) := by decide +kernel
theorem d_G_set_15 : decode b_G_set 15 = .ok (.getfield 55, 3) := by decide +kernel
theorem d_G_set_18 : decode b_G_set 18 = .ok (.iload_n 1, 1) := by decide +kernel
theorem d_G_set_19 : decode b_G_set 19 = .ok (.iaload, 1) := by decide +kernel
theorem d_G_set_20 : decode b_G_set 20 = .ok (.istore_n 3, 1) := by decide +kernel
theorem d_G_set_21 : decode b_G_set 21 = .ok (.aload_n 0, 1) := by decide +kernel
theorem d_G_set_22 : decode b_G_set 22 = .ok (.getfield 10, 3) := by decide +kernel
theorem d_G_set_25 : decode b_G_set 25 = .ok (.getfield 55, 3) := by decide +kernel
theorem d_G_set_28 : decode b_G_set 28 = .ok (.iload_n 1, 1) := by decide +kernel
theorem d_G_set_29 : decode b_G_set 29 = .ok (.iload_n 2, 1) := by decide +kernel
theorem d_G_set_30 : decode b_G_set 30 = .ok (.iastore, 1) := by decide +kernel
theorem d_G_set_31 : decode b_G_set 31 = .ok (.iload_n 3, 1) := by decide +kernel
theorem d_G_set_32 : decode b_G_set 32 = .ok (.ireturn, 1) := by decide +kernel
theorem d_G_variable_0 : decode b_G_variable 0 = .ok (.iload_n 1, 1) := by decide +kernel
theorem d_G_variable_1 : decode b_G_variable 1 = .ok (.bipush 8, 2) := by decide +kernel
theorem d_G_variable_3 : decode b_G_variable 3 = .ok (.invokestatic 21, 3) := by decide +kernel
theorem d_G_variable_6 : decode b_G_variable 6 = .ok (.ifCond .eq 15, 3) := by decide +kernel
theorem d_G_variable_9 : decode b_G_variable 9 = .ok (.aload_n 0, 1) := by decide +kernel
theorem d_G_variable_10 : decode b_G_variable 10 = .ok (.getfield 10, 3) := by decide +kernel
theorem d_G_variable_13 : decode b_G_variable 13 = .ok (.getfield 55, 3) := by decide +kernel
theorem d_G_variable_16 : decode b_G_variable 16 = .ok (.iload_n 1, 1) := by decide +kernel
theorem d_G_variable_17 : decode b_G_variable 17 = .ok (.iaload, 1) := by decide +kernel
theorem d_G_variable_18 : decode b_G_variable 18 = .ok (.goto 4, 3) := by decide +kernel
theorem d_G_variable_21 : decode b_G_variable 21 = .ok (.iconst 0, 1) := by decide +kernel
theorem d_G_variable_22 : decode b_G_variable 22 = .ok (.ireturn, 1) := by decide +kernel
theorem d_G_begin_0 : decode b_G_begin 0 = .ok (.aload_n 0, 1) := by decide +kernel
theorem d_G_begin_1 : decode b_G_begin 1 = .ok (.getfield 20, 3) := by decide +kernel
theorem d_G_begin_4 : decode b_G_begin 4 = .ok (.iload_n 1, 1) := by decide +kernel
theorem d_G_begin_5 : decode b_G_begin 5 = .ok (.invokevirtual 43, 3) := by decide +kernel
theorem d_G_begin_8 : decode b_G_begin 8 = .ok (.ifCond .ne 6, 3) := by decide +kernel
theorem d_G_begin_11 : decode b_G_begin 11 = .ok (.bipush (-2), 2) := by decide +kernel
theorem d_G_begin_13 : decode b_G_begin 13 = .ok (.ireturn, 1) := by decide +kernel
theorem d_G_begin_14 : decode b_G_begin 14 = .ok (.aload_n 0, 1) := by decide +kernel
theorem d_G_begin_15 : decode b_G_begin 15 = .ok (.getfield 20, 3) := by decide +kernel
theorem d_G_begin_18 : decode b_G_begin 18 = .ok (.getfield 51, 3) := by decide +kernel
theorem d_G_begin_21 : decode b_G_begin 21 = .ok (.iload_n 1, 1) := by decide +kernel
theorem d_G_begin_22 : decode b_G_begin 22 = .ok (.baload, 1) := by decide +kernel
theorem d_G_begin_23 : decode b_G_begin 23 = .ok (.ifCond .ne 6, 3) := by decide +kernel
theorem d_G_begin_26 : decode b_G_begin 26 = .ok (.bipush (-3), 2) := by decide +kernel
theorem d_G_begin_28 : decode b_G_begin 28 = .ok (.ireturn, 1) := by decide +kernel
theorem d_G_begin_29 : decode b_G_begin 29 = .ok (.iload_n 2, 1) := by decide +kernel
theorem d_G_begin_30 : decode b_G_begin 30 = .ok (.sipush 2001, 3) := by decide +kernel
theorem d_G_begin_33 : decode b_G_begin 33 = .ok (.invokestatic 21, 3) := by decide +kernel
theorem d_G_begin_36 : decode b_G_begin 36 = .ok (.ifCond .ne 5, 3) := by decide +kernel
theorem d_G_begin_39 : decode b_G_begin 39 = .ok (.iconst (-1), 1) := by decide +kernel
theorem d_G_begin_40 : decode b_G_begin 40 = .ok (.ireturn, 1) := by decide +kernel
theorem d_G_begin_41 : decode b_G_begin 41 = .ok (.aload_n 0, 1) := by decide +kernel
theorem d_G_begin_42 : decode b_G_begin 42 = .ok (.getfield 10, 3) := by decide +kernel
theorem d_G_begin_45 : decode b_G_begin 45 = .ok (.iload_n 1, 1) := by decide +kernel
theorem d_G_begin_46 : decode b_G_begin 46 = .ok (.iload_n 2, 1) := by decide +kernel
theorem d_G_begin_47 : decode b_G_begin 47 = .ok (.invokevirtual 58, 3) := by decide +kernel
theorem d_G_begin_50 : decode b_G_begin 50 = .ok (.iconst 0, 1) := by decide +kernel
theorem d_G_begin_51 : decode b_G_begin 51 = .ok (.ireturn, 1) := by decide +kernel
theorem d_G_next_0 : decode b_G_next 0 = .ok (.aload_n 0, 1) := by decide +kernel
theorem d_G_next_1 : decode b_G_next 1 = .ok (.getfield 10, 3) := by decide +kernel
theorem d_G_next_4 : decode b_G_next 4 = .ok (.invokevirtual 62, 3) := by decide +kernel
theorem d_G_next_7 : decode b_G_next 7 = .ok (.ireturn, 1) := by decide +kernel
theorem d_G_skip_0 : decode b_G_skip 0 = .ok (.iload_n 1, 1) := by decide +kernel
theorem d_G_skip_1 : decode b_G_skip 1 = .ok (.bipush 100, 2) := by decide +kernel
theorem d_G_skip_3 : decode b_G_skip 3 = .ok (.if_icmp .le 5, 3) := by decide +kernel
theorem d_G_skip_6 : decode b_G_skip 6 = .ok (.iconst 0, 1) := by decide +kernel
theorem d_G_skip_7 : decode b_G_skip 7 = .ok (.ireturn, 1) := by decide +kernel
theorem d_G_skip_8 : decode b_G_skip 8 = .ok (.iconst 0, 1) := by decide +kernel
theorem d_G_skip_9 : decode b_G_skip 9 = .ok (.istore_n 2, 1) := by decide +kernel
theorem d_G_skip_10 : decode b_G_skip 10 = .ok (.iload_n 2, 1) := by decide +kernel
theorem d_G_skip_11 : decode b_G_skip 11 = .ok (.iload_n 1, 1) := by decide +kernel
theorem d_G_skip_12 : decode b_G_skip 12 = .ok (.if_icmp .ge 20, 3) := by decide +kernel
theorem d_G_skip_15 : decode b_G_skip 15 = .ok (.aload_n 0, 1) := by decide +kernel
theorem d_G_skip_16 : decode b_G_skip 16 = .ok (.getfield 10, 3) := by decide +kernel
theorem d_G_skip_19 : decode b_G_skip 19 = .ok (.invokevirtual 62, 3) := by decide +kernel
theorem d_G_skip_22 : decode b_G_skip 22 = .ok (.iconst 1, 1) := by decide +kernel
theorem d_G_skip_23 : decode b_G_skip 23 = .ok (.if_icmp .ne 9, 3) := by decide +kernel
theorem d_G_skip_26 : decode b_G_skip 26 = .ok (.iinc 2 1, 3) := by decide +kernel
theorem d_G_skip_29 : decode b_G_skip 29 = .ok (.goto (-19), 3) := by decide +kernel
theorem d_G_skip_32 : decode b_G_skip 32 = .ok (.iload_n 2, 1) := by decide +kernel
theorem d_G_skip_33 : decode b_G_skip 33 = .ok (.ireturn, 1) := by decide +kernel
theorem d_G_value_0 : decode b_G_value 0 = .ok (.aload_n 0, 1) := by decide +kernel
theorem d_G_value_1 : decode b_G_value 1 = .ok (.getfield 10, 3) := by decide +kernel
theorem d_G_value_4 : decode b_G_value 4 = .ok (.getfield 66, 3) := by decide +kernel
theorem d_G_value_7 : decode b_G_value 7 = .ok (.ireturn, 1) := by decide +kernel
theorem d_G_writes_0 : decode b_G_writes 0 = .ok (.aload_n 0, 1) := by decide +kernel
theorem d_G_writes_1 : decode b_G_writes 1 = .ok (.getfield 10, 3) := by decide +kernel
theorem d_G_writes_4 : decode b_G_writes 4 = .ok (.getfield 69, 3) := by decide +kernel
theorem d_G_writes_7 : decode b_G_writes 7 = .ok (.ireturn, 1) := by decide +kernel
theorem d_G_written_0 : decode b_G_written 0 = .ok (.iload_n 1, 1) := by decide +kernel
theorem d_G_written_1 : decode b_G_written 1 = .ok (.aload_n 0, 1) := by decide +kernel
theorem d_G_written_2 : decode b_G_written 2 = .ok (.getfield 10, 3) := by decide +kernel
theorem d_G_written_5 : decode b_G_written 5 = .ok (.getfield 69, 3) := by decide +kernel
theorem d_G_written_8 : decode b_G_written 8 = .ok (.invokestatic 21, 3) := by decide +kernel
theorem d_G_written_11 : decode b_G_written 11 = .ok (.ifCond .eq 16, 3) := by decide +kernel
theorem d_G_written_14 : decode b_G_written 14 = .ok (.aload_n 0, 1) := by decide +kernel
theorem d_G_written_15 : decode b_G_written 15 = .ok (.getfield 10, 3) := by decide +kernel
theorem d_G_written_18 : decode b_G_written 18 = .ok (.getfield 72, 3) := by decide +kernel
theorem d_G_written_21 : decode b_G_written 21 = .ok (.iload_n 1, 1) := by decide +kernel
theorem d_G_written_22 : decode b_G_written 22 = .ok (.iaload, 1) := by decide +kernel
theorem d_G_written_23 : decode b_G_written 23 = .ok (.i2l, 1) := by decide +kernel
theorem d_G_written_24 : decode b_G_written 24 = .ok (.goto 6, 3) := by decide +kernel
theorem d_G_written_27 : decode b_G_written 27 = .ok (.ldc2_w 75, 3) := by decide +kernel
theorem d_G_written_30 : decode b_G_written 30 = .ok (.lreturn, 1) := by decide +kernel
theorem d_G_cost_0 : decode b_G_cost 0 = .ok (.aload_n 0, 1) := by decide +kernel
theorem d_G_cost_1 : decode b_G_cost 1 = .ok (.getfield 10, 3) := by decide +kernel
theorem d_G_cost_4 : decode b_G_cost 4 = .ok (.getfield 77, 3) := by decide +kernel
theorem d_G_cost_7 : decode b_G_cost 7 = .ok (.ireturn, 1) := by decide +kernel
theorem d_G_isBelow_0 : decode b_G_isBelow 0 = .ok (.iload_n 0, 1) := by decide +kernel
theorem d_G_isBelow_1 : decode b_G_isBelow 1 = .ok (.ifCond .lt 12, 3) := by decide +kernel
theorem d_G_isBelow_4 : decode b_G_isBelow 4 = .ok (.iload_n 0, 1) := by decide +kernel
theorem d_G_isBelow_5 : decode b_G_isBelow 5 = .ok (.iload_n 1, 1) := by decide +kernel
theorem d_G_isBelow_6 : decode b_G_isBelow 6 = .ok (.if_icmp .ge 7, 3) := by decide +kernel
theorem d_G_isBelow_9 : decode b_G_isBelow 9 = .ok (.iconst 1, 1) := by decide +kernel
theorem d_G_isBelow_10 : decode b_G_isBelow 10 = .ok (.goto 4, 3) := by decide +kernel
theorem d_G_isBelow_13 : decode b_G_isBelow 13 = .ok (.iconst 0, 1) := by decide +kernel
theorem d_G_isBelow_14 : decode b_G_isBelow 14 = .ok (.ireturn, 1) := by decide +kernel
theorem d_G_join_0 : decode b_G_join 0 = .ok (.aload_n 0, 1) := by decide +kernel
theorem d_G_join_1 : decode b_G_join 1 = .ok (.getfield 20, 3) := by decide +kernel
theorem d_G_join_4 : decode b_G_join 4 = .ok (.iload_n 3, 1) := by decide +kernel
theorem d_G_join_5 : decode b_G_join 5 = .ok (.invokevirtual 43, 3) := by decide +kernel
theorem d_G_join_8 : decode b_G_join 8 = .ok (.ifCond .eq 27, 3) := by decide +kernel
theorem d_G_join_11 : decode b_G_join 11 = .ok (.aload_n 0, 1) := by decide +kernel
theorem d_G_join_12 : decode b_G_join 12 = .ok (.getfield 20, 3) := by decide +kernel
theorem d_G_join_15 : decode b_G_join 15 = .ok (.iload 4, 2) := by decide +kernel
theorem d_G_join_17 : decode b_G_join 17 = .ok (.invokevirtual 43, 3) := by decide +kernel
theorem d_G_join_20 : decode b_G_join 20 = .ok (.ifCond .eq 15, 3) := by decide +kernel
theorem d_G_join_23 : decode b_G_join 23 = .ok (.aload_n 0, 1) := by decide +kernel
theorem d_G_join_24 : decode b_G_join 24 = .ok (.getfield 20, 3) := by decide +kernel
theorem d_G_join_27 : decode b_G_join 27 = .ok (.iload 5, 2) := by decide +kernel
theorem d_G_join_29 : decode b_G_join 29 = .ok (.invokevirtual 43, 3) := by decide +kernel
theorem d_G_join_32 : decode b_G_join 32 = .ok (.ifCond .ne 6, 3) := by decide +kernel
theorem d_G_join_35 : decode b_G_join 35 = .ok (.bipush (-2), 2) := by decide +kernel
theorem d_G_join_37 : decode b_G_join 37 = .ok (.ireturn, 1) := by decide +kernel
theorem d_G_join_38 : decode b_G_join 38 = .ok (.iload 6, 2) := by decide +kernel
theorem d_G_join_40 : decode b_G_join 40 = .ok (.ifCond .ne 41, 3) := by decide +kernel
theorem d_G_join_43 : decode b_G_join 43 = .ok (.aload_n 0, 1) := by decide +kernel
theorem d_G_join_44 : decode b_G_join 44 = .ok (.getfield 20, 3) := by decide +kernel
theorem d_G_join_47 : decode b_G_join 47 = .ok (.getfield 51, 3) := by decide +kernel
theorem d_G_join_50 : decode b_G_join 50 = .ok (.iload_n 3, 1) := by decide +kernel
theorem d_G_join_51 : decode b_G_join 51 = .ok (.baload, 1) := by decide +kernel
theorem d_G_join_52 : decode b_G_join 52 = .ok (.ifCond .eq 29, 3) := by decide +kernel
theorem d_G_join_55 : decode b_G_join 55 = .ok (.aload_n 0, 1) := by decide +kernel
theorem d_G_join_56 : decode b_G_join 56 = .ok (.getfield 20, 3) := by decide +kernel
theorem d_G_join_59 : decode b_G_join 59 = .ok (.getfield 51, 3) := by decide +kernel
theorem d_G_join_62 : decode b_G_join 62 = .ok (.iload 4, 2) := by decide +kernel
theorem d_G_join_64 : decode b_G_join 64 = .ok (.baload, 1) := by decide +kernel
theorem d_G_join_65 : decode b_G_join 65 = .ok (.ifCond .eq 16, 3) := by decide +kernel
theorem d_G_join_68 : decode b_G_join 68 = .ok (.aload_n 0, 1) := by decide +kernel
theorem d_G_join_69 : decode b_G_join 69 = .ok (.getfield 20, 3) := by decide +kernel
theorem d_G_join_72 : decode b_G_join 72 = .ok (.getfield 51, 3) := by decide +kernel
theorem d_G_join_75 : decode b_G_join 75 = .ok (.iload 5, 2) := by decide +kernel
theorem d_G_join_77 : decode b_G_join 77 = .ok (.baload, 1) := by decide +kernel
theorem d_G_join_78 : decode b_G_join 78 = .ok (.ifCond .ne 6, 3) := by decide +kernel
theorem d_G_join_81 : decode b_G_join 81 = .ok (.bipush (-3), 2) := by decide +kernel
theorem d_G_join_83 : decode b_G_join 83 = .ok (.ireturn, 1) := by decide +kernel
theorem d_G_join_84 : decode b_G_join 84 = .ok (.aload_n 0, 1) := by decide +kernel
theorem d_G_join_85 : decode b_G_join 85 = .ok (.getfield 20, 3) := by decide +kernel
theorem d_G_join_88 : decode b_G_join 88 = .ok (.invokevirtual 27, 3) := by decide +kernel
theorem d_G_join_91 : decode b_G_join 91 = .ok (.ifCond .eq 6, 3) := by decide +kernel
theorem d_G_join_94 : decode b_G_join 94 = .ok (.bipush (-4), 2) := by decide +kernel
theorem d_G_join_96 : decode b_G_join 96 = .ok (.ireturn, 1) := by decide +kernel
theorem d_G_join_97 : decode b_G_join 97 = .ok (.aload_n 0, 1) := by decide +kernel
theorem d_G_join_98 : decode b_G_join 98 = .ok (.getfield 20, 3) := by decide +kernel
theorem d_G_join_101 : decode b_G_join 101 = .ok (.iload_n 3, 1) := by decide +kernel
theorem d_G_join_102 : decode b_G_join 102 = .ok (.iload 4, 2) := by decide +kernel
theorem d_G_join_104 : decode b_G_join 104 = .ok (.iload 5, 2) := by decide +kernel
theorem d_G_join_106 : decode b_G_join 106 = .ok (.invokevirtual 80, 3) := by decide +kernel
theorem d_G_join_109 : decode b_G_join 109 = .ok (.bipush 12, 2) := by decide +kernel
theorem d_G_join_111 : decode b_G_join 111 = .ok (.if_icmp .le 6, 3) := by decide +kernel
theorem d_G_join_114 : decode b_G_join 114 = .ok (.bipush (-5), 2) := by decide +kernel
theorem d_G_join_116 : decode b_G_join 116 = .ok (.ireturn, 1) := by decide +kernel
theorem d_G_join_117 : decode b_G_join 117 = .ok (.aload_n 0, 1) := by decide +kernel
theorem d_G_join_118 : decode b_G_join 118 = .ok (.getfield 20, 3) := by decide +kernel
theorem d_G_join_121 : decode b_G_join 121 = .ok (.iload_n 1, 1) := by decide +kernel
theorem d_G_join_122 : decode b_G_join 122 = .ok (.iload_n 2, 1) := by decide +kernel
theorem d_G_join_123 : decode b_G_join 123 = .ok (.iload_n 3, 1) := by decide +kernel
theorem d_G_join_124 : decode b_G_join 124 = .ok (.iload 4, 2) := by decide +kernel
theorem d_G_join_126 : decode b_G_join 126 = .ok (.iload 5, 2) := by decide +kernel
theorem d_G_join_128 : decode b_G_join 128 = .ok (.invokevirtual 84, 3) := by decide +kernel
theorem d_G_join_131 : decode b_G_join 131 = .ok (.ireturn, 1) := by decide +kernel
