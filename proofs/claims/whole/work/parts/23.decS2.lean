/-! decoded rows -/
theorem d_S_calculate_7 : decode b_S_calculate 7 = .ok (.lload_n 3, 1) := by decide +kernel
theorem d_S_calculate_8 : decode b_S_calculate 8 = .ok (.ladd, 1) := by decide +kernel
theorem d_S_calculate_9 : decode b_S_calculate 9 = .ok (.lreturn, 1) := by decide +kernel
theorem d_S_calculate_10 : decode b_S_calculate 10 = .ok (.iload_n 0, 1) := by decide +kernel
theorem d_S_calculate_11 : decode b_S_calculate 11 = .ok (.bipush 9, 2) := by decide +kernel
theorem d_S_calculate_13 : decode b_S_calculate 13 = .ok (.if_icmp .ne 9, 3) := by decide +kernel
theorem d_S_calculate_16 : decode b_S_calculate 16 = .ok (.lload_n 1, 1) := by decide +kernel
theorem d_S_calculate_17 : decode b_S_calculate 17 = .ok (.lload_n 3, 1) := by decide +kernel
theorem d_S_calculate_18 : decode b_S_calculate 18 = .ok (.lsub, 1) := by decide +kernel
theorem d_S_calculate_19 : decode b_S_calculate 19 = .ok (.goto 6, 3) := by decide +kernel
theorem d_S_calculate_22 : decode b_S_calculate 22 = .ok (.lload_n 1, 1) := by decide +kernel
theorem d_S_calculate_23 : decode b_S_calculate 23 = .ok (.lload_n 3, 1) := by decide +kernel
theorem d_S_calculate_24 : decode b_S_calculate 24 = .ok (.lmul, 1) := by decide +kernel
theorem d_S_calculate_25 : decode b_S_calculate 25 = .ok (.lreturn, 1) := by decide +kernel
theorem d_S_askComparison_0 : decode b_S_askComparison 0 = .ok (.aload_n 0, 1) := by decide +kernel
theorem d_S_askComparison_1 : decode b_S_askComparison 1 = .ok (.getfield 10, 3) := by decide +kernel
theorem d_S_askComparison_4 : decode b_S_askComparison 4 = .ok (.getfield 85, 3) := by decide +kernel
theorem d_S_askComparison_7 : decode b_S_askComparison 7 = .ok (.iload_n 1, 1) := by decide +kernel
theorem d_S_askComparison_8 : decode b_S_askComparison 8 = .ok (.iaload, 1) := by decide +kernel
theorem d_S_askComparison_9 : decode b_S_askComparison 9 = .ok (.istore_n 2, 1) := by decide +kernel
theorem d_S_askComparison_10 : decode b_S_askComparison 10 = .ok (.iconst 0, 1) := by decide +kernel
theorem d_S_askComparison_11 : decode b_S_askComparison 11 = .ok (.istore_n 3, 1) := by decide +kernel
theorem d_S_askComparison_12 : decode b_S_askComparison 12 = .ok (.iload_n 3, 1) := by decide +kernel
theorem d_S_askComparison_13 : decode b_S_askComparison 13 = .ok (.ldc 131, 2) := by decide +kernel
theorem d_S_askComparison_15 : decode b_S_askComparison 15 = .ok (.if_icmp .ge 72, 3) := by decide +kernel
theorem d_S_askComparison_18 : decode b_S_askComparison 18 = .ok (.aload_n 0, 1) := by decide +kernel
theorem d_S_askComparison_19 : decode b_S_askComparison 19 = .ok (.iload_n 1, 1) := by decide +kernel
theorem d_S_askComparison_20 : decode b_S_askComparison 20 = .ok (.invokevirtual 88, 3) := by decide +kernel
theorem d_S_askComparison_23 : decode b_S_askComparison 23 = .ok (.istore 4, 2) := by decide +kernel
theorem d_S_askComparison_25 : decode b_S_askComparison 25 = .ok (.iload 4, 2) := by decide +kernel
theorem d_S_askComparison_27 : decode b_S_askComparison 27 = .ok (.iconst 1, 1) := by decide +kernel
theorem d_S_askComparison_28 : decode b_S_askComparison 28 = .ok (.if_icmp .eq 6, 3) := by decide +kernel
theorem d_S_askComparison_31 : decode b_S_askComparison 31 = .ok (.iload 4, 2) := by decide +kernel
theorem d_S_askComparison_33 : decode b_S_askComparison 33 = .ok (.ireturn, 1) := by decide +kernel
theorem d_S_askComparison_34 : decode b_S_askComparison 34 = .ok (.aload_n 0, 1) := by decide +kernel
theorem d_S_askComparison_35 : decode b_S_askComparison 35 = .ok (.getfield 10, 3) := by decide +kernel
theorem d_S_askComparison_38 : decode b_S_askComparison 38 = .ok (.getfield 60, 3) := by decide +kernel
theorem d_S_askComparison_41 : decode b_S_askComparison 41 = .ok (.iload_n 1, 1) := by decide +kernel
theorem d_S_askComparison_42 : decode b_S_askComparison 42 = .ok (.iaload, 1) := by decide +kernel
theorem d_S_askComparison_43 : decode b_S_askComparison 43 = .ok (.aload_n 0, 1) := by decide +kernel
theorem d_S_askComparison_44 : decode b_S_askComparison 44 = .ok (.getfield 20, 3) := by decide +kernel
theorem d_S_askComparison_47 : decode b_S_askComparison 47 = .ok (.aload_n 0, 1) := by decide +kernel
theorem d_S_askComparison_48 : decode b_S_askComparison 48 = .ok (.getfield 10, 3) := by decide +kernel
theorem d_S_askComparison_51 : decode b_S_askComparison 51 = .ok (.getfield 122, 3) := by decide +kernel
theorem d_S_askComparison_54 : decode b_S_askComparison 54 = .ok (.iload_n 1, 1) := by decide +kernel
theorem d_S_askComparison_55 : decode b_S_askComparison 55 = .ok (.iaload, 1) := by decide +kernel
theorem d_S_askComparison_56 : decode b_S_askComparison 56 = .ok (.iaload, 1) := by decide +kernel
theorem d_S_askComparison_57 : decode b_S_askComparison 57 = .ok (.aload_n 0, 1) := by decide +kernel
theorem d_S_askComparison_58 : decode b_S_askComparison 58 = .ok (.getfield 20, 3) := by decide +kernel
theorem d_S_askComparison_61 : decode b_S_askComparison 61 = .ok (.iload_n 2, 1) := by decide +kernel
theorem d_S_askComparison_62 : decode b_S_askComparison 62 = .ok (.iaload, 1) := by decide +kernel
theorem d_S_askComparison_63 : decode b_S_askComparison 63 = .ok (.invokestatic 136, 3) := by decide +kernel
theorem d_S_askComparison_66 : decode b_S_askComparison 66 = .ok (.ifCond .eq 15, 3) := by decide +kernel
theorem d_S_askComparison_69 : decode b_S_askComparison 69 = .ok (.aload_n 0, 1) := by decide +kernel
theorem d_S_askComparison_70 : decode b_S_askComparison 70 = .ok (.iload_n 1, 1) := by decide +kernel
theorem d_S_askComparison_71 : decode b_S_askComparison 71 = .ok (.aload_n 0, 1) := by decide +kernel
theorem d_S_askComparison_72 : decode b_S_askComparison 72 = .ok (.getfield 20, 3) := by decide +kernel
theorem d_S_askComparison_75 : decode b_S_askComparison 75 = .ok (.iload_n 2, 1) := by decide +kernel
theorem d_S_askComparison_76 : decode b_S_askComparison 76 = .ok (.iaload, 1) := by decide +kernel
theorem d_S_askComparison_77 : decode b_S_askComparison 77 = .ok (.invokevirtual 116, 3) := by decide +kernel
theorem d_S_askComparison_80 : decode b_S_askComparison 80 = .ok (.ireturn, 1) := by decide +kernel
theorem d_S_askComparison_81 : decode b_S_askComparison 81 = .ok (.iinc 3 1, 3) := by decide +kernel
theorem d_S_askComparison_84 : decode b_S_askComparison 84 = .ok (.goto (-72), 3) := by decide +kernel
theorem d_S_askComparison_87 : decode b_S_askComparison 87 = .ok (.iconst 0, 1) := by decide +kernel
theorem d_S_askComparison_88 : decode b_S_askComparison 88 = .ok (.ireturn, 1) := by decide +kernel
theorem d_S_holds_0 : decode b_S_holds 0 = .ok (.iload_n 0, 1) := by decide +kernel
theorem d_S_holds_1 : decode b_S_holds 1 = .ok (.bipush 11, 2) := by decide +kernel
theorem d_S_holds_3 : decode b_S_holds 3 = .ok (.if_icmp .ne 14, 3) := by decide +kernel
theorem d_S_holds_6 : decode b_S_holds 6 = .ok (.iload_n 1, 1) := by decide +kernel
theorem d_S_holds_7 : decode b_S_holds 7 = .ok (.iload_n 2, 1) := by decide +kernel
theorem d_S_holds_8 : decode b_S_holds 8 = .ok (.if_icmp .ge 7, 3) := by decide +kernel
theorem d_S_holds_11 : decode b_S_holds 11 = .ok (.iconst 1, 1) := by decide +kernel
theorem d_S_holds_12 : decode b_S_holds 12 = .ok (.goto 4, 3) := by decide +kernel
theorem d_S_holds_15 : decode b_S_holds 15 = .ok (.iconst 0, 1) := by decide +kernel
theorem d_S_holds_16 : decode b_S_holds 16 = .ok (.ireturn, 1) := by decide +kernel
theorem d_S_holds_17 : decode b_S_holds 17 = .ok (.iload_n 0, 1) := by decide +kernel
theorem d_S_holds_18 : decode b_S_holds 18 = .ok (.bipush 12, 2) := by decide +kernel
theorem d_S_holds_20 : decode b_S_holds 20 = .ok (.if_icmp .ne 7, 3) := by decide +kernel
theorem d_S_holds_23 : decode b_S_holds 23 = .ok (.iconst 1, 1) := by decide +kernel
theorem d_S_holds_24 : decode b_S_holds 24 = .ok (.goto 4, 3) := by decide +kernel
theorem d_S_holds_27 : decode b_S_holds 27 = .ok (.iconst 0, 1) := by decide +kernel
theorem d_S_holds_28 : decode b_S_holds 28 = .ok (.iload_n 1, 1) := by decide +kernel
theorem d_S_holds_29 : decode b_S_holds 29 = .ok (.iload_n 2, 1) := by decide +kernel
theorem d_S_holds_30 : decode b_S_holds 30 = .ok (.if_icmp .ne 7, 3) := by decide +kernel
theorem d_S_holds_33 : decode b_S_holds 33 = .ok (.iconst 1, 1) := by decide +kernel
theorem d_S_holds_34 : decode b_S_holds 34 = .ok (.goto 4, 3) := by decide +kernel
theorem d_S_holds_37 : decode b_S_holds 37 = .ok (.iconst 0, 1) := by decide +kernel
theorem d_S_holds_38 : decode b_S_holds 38 = .ok (.if_icmp .ne 7, 3) := by decide +kernel
theorem d_S_holds_41 : decode b_S_holds 41 = .ok (.iconst 1, 1) := by decide +kernel
theorem d_S_holds_42 : decode b_S_holds 42 = .ok (.goto 4, 3) := by decide +kernel
theorem d_S_holds_45 : decode b_S_holds 45 = .ok (.iconst 0, 1) := by decide +kernel
theorem d_S_holds_46 : decode b_S_holds 46 = .ok (.ireturn, 1) := by decide +kernel
theorem d_S_askLimit_0 : decode b_S_askLimit 0 = .ok (.aload_n 0, 1) := by decide +kernel
theorem d_S_askLimit_1 : decode b_S_askLimit 1 = .ok (.getfield 10, 3) := by decide +kernel
theorem d_S_askLimit_4 : decode b_S_askLimit 4 = .ok (.getfield 122, 3) := by decide +kernel
theorem d_S_askLimit_7 : decode b_S_askLimit 7 = .ok (.iload_n 1, 1) := by decide +kernel
theorem d_S_askLimit_8 : decode b_S_askLimit 8 = .ok (.iaload, 1) := by decide +kernel
theorem d_S_askLimit_9 : decode b_S_askLimit 9 = .ok (.istore_n 2, 1) := by decide +kernel
theorem d_S_askLimit_10 : decode b_S_askLimit 10 = .ok (.iconst 0, 1) := by decide +kernel
theorem d_S_askLimit_11 : decode b_S_askLimit 11 = .ok (.istore_n 3, 1) := by decide +kernel
theorem d_S_askLimit_12 : decode b_S_askLimit 12 = .ok (.iload_n 3, 1) := by decide +kernel
theorem d_S_askLimit_13 : decode b_S_askLimit 13 = .ok (.ldc 131, 2) := by decide +kernel
theorem d_S_askLimit_15 : decode b_S_askLimit 15 = .ok (.if_icmp .ge 96, 3) := by decide +kernel
theorem d_S_askLimit_18 : decode b_S_askLimit 18 = .ok (.aload_n 0, 1) := by decide +kernel
theorem d_S_askLimit_19 : decode b_S_askLimit 19 = .ok (.getfield 16, 3) := by decide +kernel
theorem d_S_askLimit_22 : decode b_S_askLimit 22 = .ok (.iload_n 1, 1) := by decide +kernel
theorem d_S_askLimit_23 : decode b_S_askLimit 23 = .ok (.iaload, 1) := by decide +kernel
theorem d_S_askLimit_24 : decode b_S_askLimit 24 = .ok (.iconst 1, 1) := by decide +kernel
theorem d_S_askLimit_25 : decode b_S_askLimit 25 = .ok (.if_icmp .eq 31, 3) := by decide +kernel
theorem d_S_askLimit_28 : decode b_S_askLimit 28 = .ok (.aload_n 0, 1) := by decide +kernel
theorem d_S_askLimit_29 : decode b_S_askLimit 29 = .ok (.iload_n 1, 1) := by decide +kernel
theorem d_S_askLimit_30 : decode b_S_askLimit 30 = .ok (.invokevirtual 140, 3) := by decide +kernel
theorem d_S_askLimit_33 : decode b_S_askLimit 33 = .ok (.istore 4, 2) := by decide +kernel
theorem d_S_askLimit_35 : decode b_S_askLimit 35 = .ok (.iload 4, 2) := by decide +kernel
theorem d_S_askLimit_37 : decode b_S_askLimit 37 = .ok (.iconst 1, 1) := by decide +kernel
theorem d_S_askLimit_38 : decode b_S_askLimit 38 = .ok (.if_icmp .eq 6, 3) := by decide +kernel
theorem d_S_askLimit_41 : decode b_S_askLimit 41 = .ok (.iload 4, 2) := by decide +kernel
theorem d_S_askLimit_43 : decode b_S_askLimit 43 = .ok (.ireturn, 1) := by decide +kernel
theorem d_S_askLimit_44 : decode b_S_askLimit 44 = .ok (.aload_n 0, 1) := by decide +kernel
theorem d_S_askLimit_45 : decode b_S_askLimit 45 = .ok (.getfield 16, 3) := by decide +kernel
theorem d_S_askLimit_48 : decode b_S_askLimit 48 = .ok (.iload_n 1, 1) := by decide +kernel
theorem d_S_askLimit_49 : decode b_S_askLimit 49 = .ok (.iconst 1, 1) := by decide +kernel
theorem d_S_askLimit_50 : decode b_S_askLimit 50 = .ok (.iastore, 1) := by decide +kernel
theorem d_S_askLimit_51 : decode b_S_askLimit 51 = .ok (.aload_n 0, 1) := by decide +kernel
theorem d_S_askLimit_52 : decode b_S_askLimit 52 = .ok (.iload_n 2, 1) := by decide +kernel
theorem d_S_askLimit_53 : decode b_S_askLimit 53 = .ok (.invokevirtual 52, 3) := by decide +kernel
theorem d_S_askLimit_56 : decode b_S_askLimit 56 = .ok (.aload_n 0, 1) := by decide +kernel
theorem d_S_askLimit_57 : decode b_S_askLimit 57 = .ok (.getfield 23, 3) := by decide +kernel
theorem d_S_askLimit_60 : decode b_S_askLimit 60 = .ok (.iload_n 1, 1) := by decide +kernel
theorem d_S_askLimit_61 : decode b_S_askLimit 61 = .ok (.laload, 1) := by decide +kernel
theorem d_S_askLimit_62 : decode b_S_askLimit 62 = .ok (.lconst 0, 1) := by decide +kernel
theorem d_S_askLimit_63 : decode b_S_askLimit 63 = .ok (.lcmp, 1) := by decide +kernel
theorem d_S_askLimit_64 : decode b_S_askLimit 64 = .ok (.ifCond .le 34, 3) := by decide +kernel
theorem d_S_askLimit_67 : decode b_S_askLimit 67 = .ok (.aload_n 0, 1) := by decide +kernel
theorem d_S_askLimit_68 : decode b_S_askLimit 68 = .ok (.getfield 23, 3) := by decide +kernel
theorem d_S_askLimit_71 : decode b_S_askLimit 71 = .ok (.iload_n 1, 1) := by decide +kernel
theorem d_S_askLimit_72 : decode b_S_askLimit 72 = .ok (.dup2, 1) := by decide +kernel
theorem d_S_askLimit_73 : decode b_S_askLimit 73 = .ok (.laload, 1) := by decide +kernel
theorem d_S_askLimit_74 : decode b_S_askLimit 74 = .ok (.lconst 1, 1) := by decide +kernel
theorem d_S_askLimit_75 : decode b_S_askLimit 75 = .ok (.lsub, 1) := by decide +kernel
theorem d_S_askLimit_76 : decode b_S_askLimit 76 = .ok (.lastore, 1) := by decide +kernel
theorem d_S_askLimit_77 : decode b_S_askLimit 77 = .ok (.aload_n 0, 1) := by decide +kernel
theorem d_S_askLimit_78 : decode b_S_askLimit 78 = .ok (.iload_n 2, 1) := by decide +kernel
theorem d_S_askLimit_79 : decode b_S_askLimit 79 = .ok (.invokevirtual 56, 3) := by decide +kernel
theorem d_S_askLimit_82 : decode b_S_askLimit 82 = .ok (.istore 4, 2) := by decide +kernel
theorem d_S_askLimit_84 : decode b_S_askLimit 84 = .ok (.iload 4, 2) := by decide +kernel
theorem d_S_askLimit_86 : decode b_S_askLimit 86 = .ok (.ifCond .eq 12, 3) := by decide +kernel
theorem d_S_askLimit_89 : decode b_S_askLimit 89 = .ok (.aload_n 0, 1) := by decide +kernel
theorem d_S_askLimit_90 : decode b_S_askLimit 90 = .ok (.iload_n 1, 1) := by decide +kernel
theorem d_S_askLimit_91 : decode b_S_askLimit 91 = .ok (.iload_n 2, 1) := by decide +kernel
theorem d_S_askLimit_92 : decode b_S_askLimit 92 = .ok (.iload 4, 2) := by decide +kernel
theorem d_S_askLimit_94 : decode b_S_askLimit 94 = .ok (.invokevirtual 91, 3) := by decide +kernel
theorem d_S_askLimit_97 : decode b_S_askLimit 97 = .ok (.ireturn, 1) := by decide +kernel
theorem d_S_askLimit_98 : decode b_S_askLimit 98 = .ok (.aload_n 0, 1) := by decide +kernel
theorem d_S_askLimit_99 : decode b_S_askLimit 99 = .ok (.getfield 16, 3) := by decide +kernel
theorem d_S_askLimit_102 : decode b_S_askLimit 102 = .ok (.iload_n 1, 1) := by decide +kernel
theorem d_S_askLimit_103 : decode b_S_askLimit 103 = .ok (.iconst 2, 1) := by decide +kernel
theorem d_S_askLimit_104 : decode b_S_askLimit 104 = .ok (.iastore, 1) := by decide +kernel
theorem d_S_askLimit_105 : decode b_S_askLimit 105 = .ok (.iinc 3 1, 3) := by decide +kernel
theorem d_S_askLimit_108 : decode b_S_askLimit 108 = .ok (.goto (-96), 3) := by decide +kernel
theorem d_S_askLimit_111 : decode b_S_askLimit 111 = .ok (.iconst 0, 1) := by decide +kernel
theorem d_S_askLimit_112 : decode b_S_askLimit 112 = .ok (.ireturn, 1) := by decide +kernel
theorem d_S_askBound_0 : decode b_S_askBound 0 = .ok (.aload_n 0, 1) := by decide +kernel
theorem d_S_askBound_1 : decode b_S_askBound 1 = .ok (.getfield 10, 3) := by decide +kernel
theorem d_S_askBound_4 : decode b_S_askBound 4 = .ok (.getfield 85, 3) := by decide +kernel
theorem d_S_askBound_7 : decode b_S_askBound 7 = .ok (.iload_n 1, 1) := by decide +kernel
theorem d_S_askBound_8 : decode b_S_askBound 8 = .ok (.iaload, 1) := by decide +kernel
theorem d_S_askBound_9 : decode b_S_askBound 9 = .ok (.istore_n 2, 1) := by decide +kernel
theorem d_S_askBound_10 : decode b_S_askBound 10 = .ok (.aload_n 0, 1) := by decide +kernel
theorem d_S_askBound_11 : decode b_S_askBound 11 = .ok (.getfield 16, 3) := by decide +kernel
theorem d_S_askBound_14 : decode b_S_askBound 14 = .ok (.iload_n 1, 1) := by decide +kernel
theorem d_S_askBound_15 : decode b_S_askBound 15 = .ok (.iaload, 1) := by decide +kernel
theorem d_S_askBound_16 : decode b_S_askBound 16 = .ok (.ifCond .ne 8, 3) := by decide +kernel
theorem d_S_askBound_19 : decode b_S_askBound 19 = .ok (.aload_n 0, 1) := by decide +kernel
theorem d_S_askBound_20 : decode b_S_askBound 20 = .ok (.iload_n 2, 1) := by decide +kernel
theorem d_S_askBound_21 : decode b_S_askBound 21 = .ok (.invokevirtual 52, 3) := by decide +kernel
theorem d_S_askBound_24 : decode b_S_askBound 24 = .ok (.aload_n 0, 1) := by decide +kernel
theorem d_S_askBound_25 : decode b_S_askBound 25 = .ok (.iload_n 2, 1) := by decide +kernel
theorem d_S_askBound_26 : decode b_S_askBound 26 = .ok (.invokevirtual 56, 3) := by decide +kernel
theorem d_S_askBound_29 : decode b_S_askBound 29 = .ok (.istore_n 3, 1) := by decide +kernel
theorem d_S_askBound_30 : decode b_S_askBound 30 = .ok (.aload_n 0, 1) := by decide +kernel
theorem d_S_askBound_31 : decode b_S_askBound 31 = .ok (.getfield 23, 3) := by decide +kernel
theorem d_S_askBound_34 : decode b_S_askBound 34 = .ok (.iload_n 1, 1) := by decide +kernel
theorem d_S_askBound_35 : decode b_S_askBound 35 = .ok (.aload_n 0, 1) := by decide +kernel
theorem d_S_askBound_36 : decode b_S_askBound 36 = .ok (.getfield 20, 3) := by decide +kernel
theorem d_S_askBound_39 : decode b_S_askBound 39 = .ok (.iload_n 2, 1) := by decide +kernel
theorem d_S_askBound_40 : decode b_S_askBound 40 = .ok (.iaload, 1) := by decide +kernel
theorem d_S_askBound_41 : decode b_S_askBound 41 = .ok (.i2l, 1) := by decide +kernel
theorem d_S_askBound_42 : decode b_S_askBound 42 = .ok (.lastore, 1) := by decide +kernel
theorem d_S_askBound_43 : decode b_S_askBound 43 = .ok (.iload_n 3, 1) := by decide +kernel
theorem d_S_askBound_44 : decode b_S_askBound 44 = .ok (.ireturn, 1) := by decide +kernel
theorem d_S_askEveryOrWhile_0 : decode b_S_askEveryOrWhile 0 = .ok (.aload_n 0, 1) := by decide +kernel
theorem d_S_askEveryOrWhile_1 : decode b_S_askEveryOrWhile 1 = .ok (.getfield 10, 3) := by decide +kernel
theorem d_S_askEveryOrWhile_4 : decode b_S_askEveryOrWhile 4 = .ok (.getfield 60, 3) := by decide +kernel
theorem d_S_askEveryOrWhile_7 : decode b_S_askEveryOrWhile 7 = .ok (.iload_n 1, 1) := by decide +kernel
theorem d_S_askEveryOrWhile_8 : decode b_S_askEveryOrWhile 8 = .ok (.iaload, 1) := by decide +kernel
theorem d_S_askEveryOrWhile_9 : decode b_S_askEveryOrWhile 9 = .ok (.bipush 16, 2) := by decide +kernel
theorem d_S_askEveryOrWhile_11 : decode b_S_askEveryOrWhile 11 = .ok (.if_icmp .ne 7, 3) := by decide +kernel
theorem d_S_askEveryOrWhile_14 : decode b_S_askEveryOrWhile 14 = .ok (.iconst 1, 1) := by decide +kernel
theorem d_S_askEveryOrWhile_15 : decode b_S_askEveryOrWhile 15 = .ok (.goto 4, 3) := by decide +kernel
theorem d_S_askEveryOrWhile_18 : decode b_S_askEveryOrWhile 18 = .ok (.iconst 0, 1) := by decide +kernel
theorem d_S_askEveryOrWhile_19 : decode b_S_askEveryOrWhile 19 = .ok (.istore_n 2, 1) := by decide +kernel
theorem d_S_askEveryOrWhile_20 : decode b_S_askEveryOrWhile 20 = .ok (.iconst 0, 1) := by decide +kernel
theorem d_S_askEveryOrWhile_21 : decode b_S_askEveryOrWhile 21 = .ok (.istore_n 3, 1) := by decide +kernel
theorem d_S_askEveryOrWhile_22 : decode b_S_askEveryOrWhile 22 = .ok (.iload_n 3, 1) := by decide +kernel
theorem d_S_askEveryOrWhile_23 : decode b_S_askEveryOrWhile 23 = .ok (.ldc 131, 2) := by decide +kernel
theorem d_S_askEveryOrWhile_25 : decode b_S_askEveryOrWhile 25 = .ok (.if_icmp .ge 68, 3) := by decide +kernel
theorem d_S_askEveryOrWhile_28 : decode b_S_askEveryOrWhile 28 = .ok (.iload_n 2, 1) := by decide +kernel
theorem d_S_askEveryOrWhile_29 : decode b_S_askEveryOrWhile 29 = .ok (.ifCond .eq 19, 3) := by decide +kernel
theorem d_S_askEveryOrWhile_32 : decode b_S_askEveryOrWhile 32 = .ok (.aload_n 0, 1) := by decide +kernel
theorem d_S_askEveryOrWhile_33 : decode b_S_askEveryOrWhile 33 = .ok (.aload_n 0, 1) := by decide +kernel
theorem d_S_askEveryOrWhile_34 : decode b_S_askEveryOrWhile 34 = .ok (.getfield 10, 3) := by decide +kernel
theorem d_S_askEveryOrWhile_37 : decode b_S_askEveryOrWhile 37 = .ok (.getfield 122, 3) := by decide +kernel
theorem d_S_askEveryOrWhile_40 : decode b_S_askEveryOrWhile 40 = .ok (.iload_n 1, 1) := by decide +kernel
theorem d_S_askEveryOrWhile_41 : decode b_S_askEveryOrWhile 41 = .ok (.iaload, 1) := by decide +kernel
theorem d_S_askEveryOrWhile_42 : decode b_S_askEveryOrWhile 42 = .ok (.invokevirtual 128, 3) := by decide +kernel
theorem d_S_askEveryOrWhile_45 : decode b_S_askEveryOrWhile 45 = .ok (.goto 8, 3) := by decide +kernel
theorem d_S_askEveryOrWhile_48 : decode b_S_askEveryOrWhile 48 = .ok (.aload_n 0, 1) := by decide +kernel
theorem d_S_askEveryOrWhile_49 : decode b_S_askEveryOrWhile 49 = .ok (.iload_n 1, 1) := by decide +kernel
theorem d_S_askEveryOrWhile_50 : decode b_S_askEveryOrWhile 50 = .ok (.invokevirtual 125, 3) := by decide +kernel
theorem d_S_askEveryOrWhile_53 : decode b_S_askEveryOrWhile 53 = .ok (.istore 4, 2) := by decide +kernel
theorem d_S_askEveryOrWhile_55 : decode b_S_askEveryOrWhile 55 = .ok (.iload 4, 2) := by decide +kernel
theorem d_S_askEveryOrWhile_57 : decode b_S_askEveryOrWhile 57 = .ok (.iconst 1, 1) := by decide +kernel
theorem d_S_askEveryOrWhile_58 : decode b_S_askEveryOrWhile 58 = .ok (.if_icmp .eq 6, 3) := by decide +kernel
theorem d_S_askEveryOrWhile_61 : decode b_S_askEveryOrWhile 61 = .ok (.iload 4, 2) := by decide +kernel
theorem d_S_askEveryOrWhile_63 : decode b_S_askEveryOrWhile 63 = .ok (.ireturn, 1) := by decide +kernel
theorem d_S_askEveryOrWhile_64 : decode b_S_askEveryOrWhile 64 = .ok (.aload_n 0, 1) := by decide +kernel
theorem d_S_askEveryOrWhile_65 : decode b_S_askEveryOrWhile 65 = .ok (.aload_n 0, 1) := by decide +kernel
theorem d_S_askEveryOrWhile_66 : decode b_S_askEveryOrWhile 66 = .ok (.getfield 10, 3) := by decide +kernel
theorem d_S_askEveryOrWhile_69 : decode b_S_askEveryOrWhile 69 = .ok (.getfield 85, 3) := by decide +kernel
theorem d_S_askEveryOrWhile_72 : decode b_S_askEveryOrWhile 72 = .ok (.iload_n 1, 1) := by decide +kernel
theorem d_S_askEveryOrWhile_73 : decode b_S_askEveryOrWhile 73 = .ok (.iaload, 1) := by decide +kernel
theorem d_S_askEveryOrWhile_74 : decode b_S_askEveryOrWhile 74 = .ok (.invokevirtual 128, 3) := by decide +kernel
theorem d_S_askEveryOrWhile_77 : decode b_S_askEveryOrWhile 77 = .ok (.istore 4, 2) := by decide +kernel
theorem d_S_askEveryOrWhile_79 : decode b_S_askEveryOrWhile 79 = .ok (.iload 4, 2) := by decide +kernel
theorem d_S_askEveryOrWhile_81 : decode b_S_askEveryOrWhile 81 = .ok (.ifCond .ge 6, 3) := by decide +kernel
theorem d_S_askEveryOrWhile_84 : decode b_S_askEveryOrWhile 84 = .ok (.iload 4, 2) := by decide +kernel
theorem d_S_askEveryOrWhile_86 : decode b_S_askEveryOrWhile 86 = .ok (.ireturn, 1) := by decide +kernel
theorem d_S_askEveryOrWhile_87 : decode b_S_askEveryOrWhile 87 = .ok (.iinc 3 1, 3) := by decide +kernel
theorem d_S_askEveryOrWhile_90 : decode b_S_askEveryOrWhile 90 = .ok (.goto (-68), 3) := by decide +kernel
theorem d_S_askEveryOrWhile_93 : decode b_S_askEveryOrWhile 93 = .ok (.iconst 0, 1) := by decide +kernel
theorem d_S_askEveryOrWhile_94 : decode b_S_askEveryOrWhile 94 = .ok (.ireturn, 1) := by decide +kernel
theorem d_S_askThen_0 : decode b_S_askThen 0 = .ok (.aload_n 0, 1) := by decide +kernel
theorem d_S_askThen_1 : decode b_S_askThen 1 = .ok (.getfield 10, 3) := by decide +kernel
theorem d_S_askThen_4 : decode b_S_askThen 4 = .ok (.getfield 85, 3) := by decide +kernel
theorem d_S_askThen_7 : decode b_S_askThen 7 = .ok (.iload_n 1, 1) := by decide +kernel
theorem d_S_askThen_8 : decode b_S_askThen 8 = .ok (.iaload, 1) := by decide +kernel
theorem d_S_askThen_9 : decode b_S_askThen 9 = .ok (.istore_n 2, 1) := by decide +kernel
theorem d_S_askThen_10 : decode b_S_askThen 10 = .ok (.aload_n 0, 1) := by decide +kernel
theorem d_S_askThen_11 : decode b_S_askThen 11 = .ok (.getfield 16, 3) := by decide +kernel
theorem d_S_askThen_14 : decode b_S_askThen 14 = .ok (.iload_n 1, 1) := by decide +kernel
theorem d_S_askThen_15 : decode b_S_askThen 15 = .ok (.iaload, 1) := by decide +kernel
theorem d_S_askThen_16 : decode b_S_askThen 16 = .ok (.ifCond .ne 35, 3) := by decide +kernel
theorem d_S_askThen_19 : decode b_S_askThen 19 = .ok (.aload_n 0, 1) := by decide +kernel
theorem d_S_askThen_20 : decode b_S_askThen 20 = .ok (.aload_n 0, 1) := by decide +kernel
theorem d_S_askThen_21 : decode b_S_askThen 21 = .ok (.getfield 10, 3) := by decide +kernel
theorem d_S_askThen_24 : decode b_S_askThen 24 = .ok (.getfield 122, 3) := by decide +kernel
theorem d_S_askThen_27 : decode b_S_askThen 27 = .ok (.iload_n 1, 1) := by decide +kernel
theorem d_S_askThen_28 : decode b_S_askThen 28 = .ok (.iaload, 1) := by decide +kernel
theorem d_S_askThen_29 : decode b_S_askThen 29 = .ok (.invokevirtual 128, 3) := by decide +kernel
theorem d_S_askThen_32 : decode b_S_askThen 32 = .ok (.istore_n 3, 1) := by decide +kernel
theorem d_S_askThen_33 : decode b_S_askThen 33 = .ok (.iload_n 3, 1) := by decide +kernel
theorem d_S_askThen_34 : decode b_S_askThen 34 = .ok (.ifCond .ge 5, 3) := by decide +kernel
theorem d_S_askThen_37 : decode b_S_askThen 37 = .ok (.iload_n 3, 1) := by decide +kernel
theorem d_S_askThen_38 : decode b_S_askThen 38 = .ok (.ireturn, 1) := by decide +kernel
theorem d_S_askThen_39 : decode b_S_askThen 39 = .ok (.aload_n 0, 1) := by decide +kernel
theorem d_S_askThen_40 : decode b_S_askThen 40 = .ok (.getfield 16, 3) := by decide +kernel
theorem d_S_askThen_43 : decode b_S_askThen 43 = .ok (.iload_n 1, 1) := by decide +kernel
theorem d_S_askThen_44 : decode b_S_askThen 44 = .ok (.iconst 2, 1) := by decide +kernel
theorem d_S_askThen_45 : decode b_S_askThen 45 = .ok (.iastore, 1) := by decide +kernel
theorem d_S_askThen_46 : decode b_S_askThen 46 = .ok (.aload_n 0, 1) := by decide +kernel
theorem d_S_askThen_47 : decode b_S_askThen 47 = .ok (.iload_n 2, 1) := by decide +kernel
theorem d_S_askThen_48 : decode b_S_askThen 48 = .ok (.invokevirtual 52, 3) := by decide +kernel
theorem d_S_askThen_51 : decode b_S_askThen 51 = .ok (.aload_n 0, 1) := by decide +kernel
theorem d_S_askThen_52 : decode b_S_askThen 52 = .ok (.iload_n 1, 1) := by decide +kernel
theorem d_S_askThen_53 : decode b_S_askThen 53 = .ok (.iload_n 2, 1) := by decide +kernel
theorem d_S_askThen_54 : decode b_S_askThen 54 = .ok (.aload_n 0, 1) := by decide +kernel
theorem d_S_askThen_55 : decode b_S_askThen 55 = .ok (.iload_n 2, 1) := by decide +kernel
theorem d_S_askThen_56 : decode b_S_askThen 56 = .ok (.invokevirtual 56, 3) := by decide +kernel
theorem d_S_askThen_59 : decode b_S_askThen 59 = .ok (.invokevirtual 91, 3) := by decide +kernel
theorem d_S_askThen_62 : decode b_S_askThen 62 = .ok (.ireturn, 1) := by decide +kernel
theorem d_S_askIf_0 : decode b_S_askIf 0 = .ok (.aload_n 0, 1) := by decide +kernel
theorem d_S_askIf_1 : decode b_S_askIf 1 = .ok (.getfield 16, 3) := by decide +kernel
theorem d_S_askIf_4 : decode b_S_askIf 4 = .ok (.iload_n 1, 1) := by decide +kernel
theorem d_S_askIf_5 : decode b_S_askIf 5 = .ok (.iaload, 1) := by decide +kernel
theorem d_S_askIf_6 : decode b_S_askIf 6 = .ok (.ifCond .ne 48, 3) := by decide +kernel
theorem d_S_askIf_9 : decode b_S_askIf 9 = .ok (.aload_n 0, 1) := by decide +kernel
theorem d_S_askIf_10 : decode b_S_askIf 10 = .ok (.aload_n 0, 1) := by decide +kernel
theorem d_S_askIf_11 : decode b_S_askIf 11 = .ok (.getfield 10, 3) := by decide +kernel
theorem d_S_askIf_14 : decode b_S_askIf 14 = .ok (.getfield 122, 3) := by decide +kernel
theorem d_S_askIf_17 : decode b_S_askIf 17 = .ok (.iload_n 1, 1) := by decide +kernel
theorem d_S_askIf_18 : decode b_S_askIf 18 = .ok (.iaload, 1) := by decide +kernel
theorem d_S_askIf_19 : decode b_S_askIf 19 = .ok (.invokevirtual 128, 3) := by decide +kernel
theorem d_S_askIf_22 : decode b_S_askIf 22 = .ok (.istore_n 2, 1) := by decide +kernel
theorem d_S_askIf_23 : decode b_S_askIf 23 = .ok (.iload_n 2, 1) := by decide +kernel
theorem d_S_askIf_24 : decode b_S_askIf 24 = .ok (.ifCond .ge 5, 3) := by decide +kernel
theorem d_S_askIf_27 : decode b_S_askIf 27 = .ok (.iload_n 2, 1) := by decide +kernel
theorem d_S_askIf_28 : decode b_S_askIf 28 = .ok (.ireturn, 1) := by decide +kernel
theorem d_S_askIf_29 : decode b_S_askIf 29 = .ok (.aload_n 0, 1) := by decide +kernel
theorem d_S_askIf_30 : decode b_S_askIf 30 = .ok (.getfield 16, 3) := by decide +kernel
theorem d_S_askIf_33 : decode b_S_askIf 33 = .ok (.iload_n 1, 1) := by decide +kernel
theorem d_S_askIf_34 : decode b_S_askIf 34 = .ok (.iload_n 2, 1) := by decide +kernel
theorem d_S_askIf_35 : decode b_S_askIf 35 = .ok (.iconst 1, 1) := by decide +kernel
theorem d_S_askIf_36 : decode b_S_askIf 36 = .ok (.if_icmp .ne 7, 3) := by decide +kernel
theorem d_S_askIf_39 : decode b_S_askIf 39 = .ok (.iconst 2, 1) := by decide +kernel
theorem d_S_askIf_40 : decode b_S_askIf 40 = .ok (.goto 4, 3) := by decide +kernel
theorem d_S_askIf_43 : decode b_S_askIf 43 = .ok (.iconst 3, 1) := by decide +kernel
theorem d_S_askIf_44 : decode b_S_askIf 44 = .ok (.iastore, 1) := by decide +kernel
theorem d_S_askIf_45 : decode b_S_askIf 45 = .ok (.aload_n 0, 1) := by decide +kernel
theorem d_S_askIf_46 : decode b_S_askIf 46 = .ok (.aload_n 0, 1) := by decide +kernel
theorem d_S_askIf_47 : decode b_S_askIf 47 = .ok (.iload_n 1, 1) := by decide +kernel
theorem d_S_askIf_48 : decode b_S_askIf 48 = .ok (.invokevirtual 143, 3) := by decide +kernel
theorem d_S_askIf_51 : decode b_S_askIf 51 = .ok (.invokevirtual 52, 3) := by decide +kernel
theorem d_S_askIf_54 : decode b_S_askIf 54 = .ok (.aload_n 0, 1) := by decide +kernel
theorem d_S_askIf_55 : decode b_S_askIf 55 = .ok (.iload_n 1, 1) := by decide +kernel
theorem d_S_askIf_56 : decode b_S_askIf 56 = .ok (.aload_n 0, 1) := by decide +kernel
theorem d_S_askIf_57 : decode b_S_askIf 57 = .ok (.iload_n 1, 1) := by decide +kernel
theorem d_S_askIf_58 : decode b_S_askIf 58 = .ok (.invokevirtual 143, 3) := by decide +kernel
theorem d_S_askIf_61 : decode b_S_askIf 61 = .ok (.aload_n 0, 1) := by decide +kernel
theorem d_S_askIf_62 : decode b_S_askIf 62 = .ok (.aload_n 0, 1) := by decide +kernel
theorem d_S_askIf_63 : decode b_S_askIf 63 = .ok (.iload_n 1, 1) := by decide +kernel
theorem d_S_askIf_64 : decode b_S_askIf 64 = .ok (.invokevirtual 143, 3) := by decide +kernel
theorem d_S_askIf_67 : decode b_S_askIf 67 = .ok (.invokevirtual 56, 3) := by decide +kernel
theorem d_S_askIf_70 : decode b_S_askIf 70 = .ok (.invokevirtual 91, 3) := by decide +kernel
theorem d_S_askIf_73 : decode b_S_askIf 73 = .ok (.ireturn, 1) := by decide +kernel
theorem d_S_branch_0 : decode b_S_branch 0 = .ok (.aload_n 0, 1) := by decide +kernel
theorem d_S_branch_1 : decode b_S_branch 1 = .ok (.getfield 16, 3) := by decide +kernel
theorem d_S_branch_4 : decode b_S_branch 4 = .ok (.iload_n 1, 1) := by decide +kernel
theorem d_S_branch_5 : decode b_S_branch 5 = .ok (.iaload, 1) := by decide +kernel
theorem d_S_branch_6 : decode b_S_branch 6 = .ok (.iconst 2, 1) := by decide +kernel
theorem d_S_branch_7 : decode b_S_branch 7 = .ok (.if_icmp .ne 15, 3) := by decide +kernel
theorem d_S_branch_10 : decode b_S_branch 10 = .ok (.aload_n 0, 1) := by decide +kernel
theorem d_S_branch_11 : decode b_S_branch 11 = .ok (.getfield 10, 3) := by decide +kernel
theorem d_S_branch_14 : decode b_S_branch 14 = .ok (.getfield 85, 3) := by decide +kernel
theorem d_S_branch_17 : decode b_S_branch 17 = .ok (.iload_n 1, 1) := by decide +kernel
theorem d_S_branch_18 : decode b_S_branch 18 = .ok (.iaload, 1) := by decide +kernel
theorem d_S_branch_19 : decode b_S_branch 19 = .ok (.goto 12, 3) := by decide +kernel
theorem d_S_branch_22 : decode b_S_branch 22 = .ok (.aload_n 0, 1) := by decide +kernel
theorem d_S_branch_23 : decode b_S_branch 23 = .ok (.getfield 10, 3) := by decide +kernel
theorem d_S_branch_26 : decode b_S_branch 26 = .ok (.getfield 146, 3) := by decide +kernel
theorem d_S_branch_29 : decode b_S_branch 29 = .ok (.iload_n 1, 1) := by decide +kernel
theorem d_S_branch_30 : decode b_S_branch 30 = .ok (.iaload, 1) := by decide +kernel
theorem d_S_branch_31 : decode b_S_branch 31 = .ok (.ireturn, 1) := by decide +kernel
theorem d_S_askTo_0 : decode b_S_askTo 0 = .ok (.iconst 0, 1) := by decide +kernel
theorem d_S_askTo_1 : decode b_S_askTo 1 = .ok (.istore_n 2, 1) := by decide +kernel
theorem d_S_askTo_2 : decode b_S_askTo 2 = .ok (.iload_n 2, 1) := by decide +kernel
theorem d_S_askTo_3 : decode b_S_askTo 3 = .ok (.ldc 131, 2) := by decide +kernel
theorem d_S_askTo_5 : decode b_S_askTo 5 = .ok (.if_icmp .ge 135, 3) := by decide +kernel
theorem d_S_askTo_8 : decode b_S_askTo 8 = .ok (.aload_n 0, 1) := by decide +kernel
theorem d_S_askTo_9 : decode b_S_askTo 9 = .ok (.getfield 16, 3) := by decide +kernel
theorem d_S_askTo_12 : decode b_S_askTo 12 = .ok (.iload_n 1, 1) := by decide +kernel
theorem d_S_askTo_13 : decode b_S_askTo 13 = .ok (.iaload, 1) := by decide +kernel
theorem d_S_askTo_14 : decode b_S_askTo 14 = .ok (.iconst 4, 1) := by decide +kernel
theorem d_S_askTo_15 : decode b_S_askTo 15 = .ok (.if_icmp .ne 30, 3) := by decide +kernel
theorem d_S_askTo_18 : decode b_S_askTo 18 = .ok (.aload_n 0, 1) := by decide +kernel
theorem d_S_askTo_19 : decode b_S_askTo 19 = .ok (.getfield 23, 3) := by decide +kernel
theorem d_S_askTo_22 : decode b_S_askTo 22 = .ok (.iload_n 1, 1) := by decide +kernel
theorem d_S_askTo_23 : decode b_S_askTo 23 = .ok (.dup2, 1) := by decide +kernel
theorem d_S_askTo_24 : decode b_S_askTo 24 = .ok (.laload, 1) := by decide +kernel
theorem d_S_askTo_25 : decode b_S_askTo 25 = .ok (.aload_n 0, 1) := by decide +kernel
theorem d_S_askTo_26 : decode b_S_askTo 26 = .ok (.getfield 20, 3) := by decide +kernel
theorem d_S_askTo_29 : decode b_S_askTo 29 = .ok (.aload_n 0, 1) := by decide +kernel
theorem d_S_askTo_30 : decode b_S_askTo 30 = .ok (.getfield 10, 3) := by decide +kernel
theorem d_S_askTo_33 : decode b_S_askTo 33 = .ok (.getfield 146, 3) := by decide +kernel
theorem d_S_askTo_36 : decode b_S_askTo 36 = .ok (.iload_n 1, 1) := by decide +kernel
theorem d_S_askTo_37 : decode b_S_askTo 37 = .ok (.iaload, 1) := by decide +kernel
theorem d_S_askTo_38 : decode b_S_askTo 38 = .ok (.iaload, 1) := by decide +kernel
theorem d_S_askTo_39 : decode b_S_askTo 39 = .ok (.i2l, 1) := by decide +kernel
theorem d_S_askTo_40 : decode b_S_askTo 40 = .ok (.ladd, 1) := by decide +kernel
theorem d_S_askTo_41 : decode b_S_askTo 41 = .ok (.lastore, 1) := by decide +kernel
theorem d_S_askTo_42 : decode b_S_askTo 42 = .ok (.goto 64, 3) := by decide +kernel
theorem d_S_askTo_45 : decode b_S_askTo 45 = .ok (.aload_n 0, 1) := by decide +kernel
theorem d_S_askTo_46 : decode b_S_askTo 46 = .ok (.iload_n 1, 1) := by decide +kernel
theorem d_S_askTo_47 : decode b_S_askTo 47 = .ok (.invokevirtual 149, 3) := by decide +kernel
theorem d_S_askTo_50 : decode b_S_askTo 50 = .ok (.istore_n 3, 1) := by decide +kernel
theorem d_S_askTo_51 : decode b_S_askTo 51 = .ok (.iload_n 3, 1) := by decide +kernel
theorem d_S_askTo_52 : decode b_S_askTo 52 = .ok (.iconst 1, 1) := by decide +kernel
theorem d_S_askTo_53 : decode b_S_askTo 53 = .ok (.if_icmp .eq 5, 3) := by decide +kernel
theorem d_S_askTo_56 : decode b_S_askTo 56 = .ok (.iload_n 3, 1) := by decide +kernel
theorem d_S_askTo_57 : decode b_S_askTo 57 = .ok (.ireturn, 1) := by decide +kernel
theorem d_S_askTo_58 : decode b_S_askTo 58 = .ok (.aload_n 0, 1) := by decide +kernel
theorem d_S_askTo_59 : decode b_S_askTo 59 = .ok (.getfield 20, 3) := by decide +kernel
theorem d_S_askTo_62 : decode b_S_askTo 62 = .ok (.aload_n 0, 1) := by decide +kernel
theorem d_S_askTo_63 : decode b_S_askTo 63 = .ok (.getfield 10, 3) := by decide +kernel
theorem d_S_askTo_66 : decode b_S_askTo 66 = .ok (.getfield 146, 3) := by decide +kernel
theorem d_S_askTo_69 : decode b_S_askTo 69 = .ok (.iload_n 1, 1) := by decide +kernel
theorem d_S_askTo_70 : decode b_S_askTo 70 = .ok (.iaload, 1) := by decide +kernel
theorem d_S_askTo_71 : decode b_S_askTo 71 = .ok (.iaload, 1) := by decide +kernel
theorem d_S_askTo_72 : decode b_S_askTo 72 = .ok (.ifCond .ne 6, 3) := by decide +kernel
theorem d_S_askTo_75 : decode b_S_askTo 75 = .ok (.bipush (-3), 2) := by decide +kernel
theorem d_S_askTo_77 : decode b_S_askTo 77 = .ok (.ireturn, 1) := by decide +kernel
theorem d_S_askTo_78 : decode b_S_askTo 78 = .ok (.aload_n 0, 1) := by decide +kernel
theorem d_S_askTo_79 : decode b_S_askTo 79 = .ok (.getfield 23, 3) := by decide +kernel
theorem d_S_askTo_82 : decode b_S_askTo 82 = .ok (.iload_n 1, 1) := by decide +kernel
theorem d_S_askTo_83 : decode b_S_askTo 83 = .ok (.aload_n 0, 1) := by decide +kernel
theorem d_S_askTo_84 : decode b_S_askTo 84 = .ok (.getfield 20, 3) := by decide +kernel
theorem d_S_askTo_87 : decode b_S_askTo 87 = .ok (.aload_n 0, 1) := by decide +kernel
theorem d_S_askTo_88 : decode b_S_askTo 88 = .ok (.getfield 10, 3) := by decide +kernel
theorem d_S_askTo_91 : decode b_S_askTo 91 = .ok (.getfield 122, 3) := by decide +kernel
theorem d_S_askTo_94 : decode b_S_askTo 94 = .ok (.iload_n 1, 1) := by decide +kernel
theorem d_S_askTo_95 : decode b_S_askTo 95 = .ok (.iaload, 1) := by decide +kernel
theorem d_S_askTo_96 : decode b_S_askTo 96 = .ok (.iaload, 1) := by decide +kernel
theorem d_S_askTo_97 : decode b_S_askTo 97 = .ok (.i2l, 1) := by decide +kernel
theorem d_S_askTo_98 : decode b_S_askTo 98 = .ok (.lastore, 1) := by decide +kernel
theorem d_S_askTo_99 : decode b_S_askTo 99 = .ok (.aload_n 0, 1) := by decide +kernel
theorem d_S_askTo_100 : decode b_S_askTo 100 = .ok (.getfield 16, 3) := by decide +kernel
theorem d_S_askTo_103 : decode b_S_askTo 103 = .ok (.iload_n 1, 1) := by decide +kernel
theorem d_S_askTo_104 : decode b_S_askTo 104 = .ok (.iconst 4, 1) := by decide +kernel
theorem d_S_askTo_105 : decode b_S_askTo 105 = .ok (.iastore, 1) := by decide +kernel
theorem d_S_askTo_106 : decode b_S_askTo 106 = .ok (.aload_n 0, 1) := by decide +kernel
theorem d_S_askTo_107 : decode b_S_askTo 107 = .ok (.iload_n 1, 1) := by decide +kernel
theorem d_S_askTo_108 : decode b_S_askTo 108 = .ok (.invokevirtual 152, 3) := by decide +kernel
theorem d_S_askTo_111 : decode b_S_askTo 111 = .ok (.ifCond .eq 16, 3) := by decide +kernel
theorem d_S_askTo_114 : decode b_S_askTo 114 = .ok (.aload_n 0, 1) := by decide +kernel
theorem d_S_askTo_115 : decode b_S_askTo 115 = .ok (.iload_n 1, 1) := by decide +kernel
theorem d_S_askTo_116 : decode b_S_askTo 116 = .ok (.aload_n 0, 1) := by decide +kernel
theorem d_S_askTo_117 : decode b_S_askTo 117 = .ok (.getfield 23, 3) := by decide +kernel
theorem d_S_askTo_120 : decode b_S_askTo 120 = .ok (.iload_n 1, 1) := by decide +kernel
theorem d_S_askTo_121 : decode b_S_askTo 121 = .ok (.laload, 1) := by decide +kernel
theorem d_S_askTo_122 : decode b_S_askTo 122 = .ok (.l2i, 1) := by decide +kernel
theorem d_S_askTo_123 : decode b_S_askTo 123 = .ok (.invokevirtual 119, 3) := by decide +kernel
theorem d_S_askTo_126 : decode b_S_askTo 126 = .ok (.ireturn, 1) := by decide +kernel
theorem d_S_askTo_127 : decode b_S_askTo 127 = .ok (.aload_n 0, 1) := by decide +kernel
theorem d_S_askTo_128 : decode b_S_askTo 128 = .ok (.getfield 16, 3) := by decide +kernel
theorem d_S_askTo_131 : decode b_S_askTo 131 = .ok (.iload_n 1, 1) := by decide +kernel
theorem d_S_askTo_132 : decode b_S_askTo 132 = .ok (.iconst 3, 1) := by decide +kernel
theorem d_S_askTo_133 : decode b_S_askTo 133 = .ok (.iastore, 1) := by decide +kernel
theorem d_S_askTo_134 : decode b_S_askTo 134 = .ok (.iinc 2 1, 3) := by decide +kernel
theorem d_S_askTo_137 : decode b_S_askTo 137 = .ok (.goto (-135), 3) := by decide +kernel
theorem d_S_askTo_140 : decode b_S_askTo 140 = .ok (.iconst 0, 1) := by decide +kernel
theorem d_S_askTo_141 : decode b_S_askTo 141 = .ok (.ireturn, 1) := by decide +kernel
theorem d_S_isUpToEnd_0 : decode b_S_isUpToEnd 0 = .ok (.aload_n 0, 1) := by decide +kernel
theorem d_S_isUpToEnd_1 : decode b_S_isUpToEnd 1 = .ok (.getfield 20, 3) := by decide +kernel
theorem d_S_isUpToEnd_4 : decode b_S_isUpToEnd 4 = .ok (.aload_n 0, 1) := by decide +kernel
theorem d_S_isUpToEnd_5 : decode b_S_isUpToEnd 5 = .ok (.getfield 10, 3) := by decide +kernel
theorem d_S_isUpToEnd_8 : decode b_S_isUpToEnd 8 = .ok (.getfield 85, 3) := by decide +kernel
theorem d_S_isUpToEnd_11 : decode b_S_isUpToEnd 11 = .ok (.iload_n 1, 1) := by decide +kernel
theorem d_S_isUpToEnd_12 : decode b_S_isUpToEnd 12 = .ok (.iaload, 1) := by decide +kernel
theorem d_S_isUpToEnd_13 : decode b_S_isUpToEnd 13 = .ok (.iaload, 1) := by decide +kernel
theorem d_S_isUpToEnd_14 : decode b_S_isUpToEnd 14 = .ok (.istore_n 2, 1) := by decide +kernel
theorem d_S_isUpToEnd_15 : decode b_S_isUpToEnd 15 = .ok (.aload_n 0, 1) := by decide +kernel
theorem d_S_isUpToEnd_16 : decode b_S_isUpToEnd 16 = .ok (.getfield 20, 3) := by decide +kernel
theorem d_S_isUpToEnd_19 : decode b_S_isUpToEnd 19 = .ok (.aload_n 0, 1) := by decide +kernel
theorem d_S_isUpToEnd_20 : decode b_S_isUpToEnd 20 = .ok (.getfield 10, 3) := by decide +kernel
theorem d_S_isUpToEnd_23 : decode b_S_isUpToEnd 23 = .ok (.getfield 146, 3) := by decide +kernel
theorem d_S_isUpToEnd_26 : decode b_S_isUpToEnd 26 = .ok (.iload_n 1, 1) := by decide +kernel
theorem d_S_isUpToEnd_27 : decode b_S_isUpToEnd 27 = .ok (.iaload, 1) := by decide +kernel
theorem d_S_isUpToEnd_28 : decode b_S_isUpToEnd 28 = .ok (.iaload, 1) := by decide +kernel
theorem d_S_isUpToEnd_29 : decode b_S_isUpToEnd 29 = .ok (.ifCond .le 23, 3) := by decide +kernel
theorem d_S_isUpToEnd_32 : decode b_S_isUpToEnd 32 = .ok (.aload_n 0, 1) := by decide +kernel
theorem d_S_isUpToEnd_33 : decode b_S_isUpToEnd 33 = .ok (.getfield 23, 3) := by decide +kernel
theorem d_S_isUpToEnd_36 : decode b_S_isUpToEnd 36 = .ok (.iload_n 1, 1) := by decide +kernel
theorem d_S_isUpToEnd_37 : decode b_S_isUpToEnd 37 = .ok (.laload, 1) := by decide +kernel
theorem d_S_isUpToEnd_38 : decode b_S_isUpToEnd 38 = .ok (.iload_n 2, 1) := by decide +kernel
theorem d_S_isUpToEnd_39 : decode b_S_isUpToEnd 39 = .ok (.i2l, 1) := by decide +kernel
theorem d_S_isUpToEnd_40 : decode b_S_isUpToEnd 40 = .ok (.lcmp, 1) := by decide +kernel
theorem d_S_isUpToEnd_41 : decode b_S_isUpToEnd 41 = .ok (.ifCond .gt 7, 3) := by decide +kernel
theorem d_S_isUpToEnd_44 : decode b_S_isUpToEnd 44 = .ok (.iconst 1, 1) := by decide +kernel
theorem d_S_isUpToEnd_45 : decode b_S_isUpToEnd 45 = .ok (.goto 24, 3) := by decide +kernel
theorem d_S_isUpToEnd_48 : decode b_S_isUpToEnd 48 = .ok (.iconst 0, 1) := by decide +kernel
theorem d_S_isUpToEnd_49 : decode b_S_isUpToEnd 49 = .ok (.goto 20, 3) := by decide +kernel
theorem d_S_isUpToEnd_52 : decode b_S_isUpToEnd 52 = .ok (.aload_n 0, 1) := by decide +kernel
theorem d_S_isUpToEnd_53 : decode b_S_isUpToEnd 53 = .ok (.getfield 23, 3) := by decide +kernel
theorem d_S_isUpToEnd_56 : decode b_S_isUpToEnd 56 = .ok (.iload_n 1, 1) := by decide +kernel
theorem d_S_isUpToEnd_57 : decode b_S_isUpToEnd 57 = .ok (.laload, 1) := by decide +kernel
theorem d_S_isUpToEnd_58 : decode b_S_isUpToEnd 58 = .ok (.iload_n 2, 1) := by decide +kernel
theorem d_S_isUpToEnd_59 : decode b_S_isUpToEnd 59 = .ok (.i2l, 1) := by decide +kernel
theorem d_S_isUpToEnd_60 : decode b_S_isUpToEnd 60 = .ok (.lcmp, 1) := by decide +kernel
theorem d_S_isUpToEnd_61 : decode b_S_isUpToEnd 61 = .ok (.ifCond .lt 7, 3) := by decide +kernel
theorem d_S_isUpToEnd_64 : decode b_S_isUpToEnd 64 = .ok (.iconst 1, 1) := by decide +kernel
theorem d_S_isUpToEnd_65 : decode b_S_isUpToEnd 65 = .ok (.goto 4, 3) := by decide +kernel
theorem d_S_isUpToEnd_68 : decode b_S_isUpToEnd 68 = .ok (.iconst 0, 1) := by decide +kernel
theorem d_S_isUpToEnd_69 : decode b_S_isUpToEnd 69 = .ok (.ireturn, 1) := by decide +kernel
theorem d_S_askTriple_0 : decode b_S_askTriple 0 = .ok (.aload_n 0, 1) := by decide +kernel
theorem d_S_askTriple_1 : decode b_S_askTriple 1 = .ok (.getfield 10, 3) := by decide +kernel
theorem d_S_askTriple_4 : decode b_S_askTriple 4 = .ok (.getfield 146, 3) := by decide +kernel
theorem d_S_askTriple_7 : decode b_S_askTriple 7 = .ok (.iload_n 1, 1) := by decide +kernel
theorem d_S_askTriple_8 : decode b_S_askTriple 8 = .ok (.iaload, 1) := by decide +kernel
theorem d_S_askTriple_9 : decode b_S_askTriple 9 = .ok (.istore_n 2, 1) := by decide +kernel
theorem d_S_askTriple_10 : decode b_S_askTriple 10 = .ok (.iconst 0, 1) := by decide +kernel
theorem d_S_askTriple_11 : decode b_S_askTriple 11 = .ok (.istore_n 3, 1) := by decide +kernel
theorem d_S_askTriple_12 : decode b_S_askTriple 12 = .ok (.iload_n 3, 1) := by decide +kernel
theorem d_S_askTriple_13 : decode b_S_askTriple 13 = .ok (.ldc 131, 2) := by decide +kernel
theorem d_S_askTriple_15 : decode b_S_askTriple 15 = .ok (.if_icmp .ge 69, 3) := by decide +kernel
theorem d_S_askTriple_18 : decode b_S_askTriple 18 = .ok (.aload_n 0, 1) := by decide +kernel
theorem d_S_askTriple_19 : decode b_S_askTriple 19 = .ok (.getfield 16, 3) := by decide +kernel
theorem d_S_askTriple_22 : decode b_S_askTriple 22 = .ok (.iload_n 1, 1) := by decide +kernel
theorem d_S_askTriple_23 : decode b_S_askTriple 23 = .ok (.iaload, 1) := by decide +kernel
theorem d_S_askTriple_24 : decode b_S_askTriple 24 = .ok (.iconst 3, 1) := by decide +kernel
theorem d_S_askTriple_25 : decode b_S_askTriple 25 = .ok (.if_icmp .eq 31, 3) := by decide +kernel
theorem d_S_askTriple_28 : decode b_S_askTriple 28 = .ok (.aload_n 0, 1) := by decide +kernel
theorem d_S_askTriple_29 : decode b_S_askTriple 29 = .ok (.iload_n 1, 1) := by decide +kernel
theorem d_S_askTriple_30 : decode b_S_askTriple 30 = .ok (.invokevirtual 88, 3) := by decide +kernel
theorem d_S_askTriple_33 : decode b_S_askTriple 33 = .ok (.istore 4, 2) := by decide +kernel
theorem d_S_askTriple_35 : decode b_S_askTriple 35 = .ok (.iload 4, 2) := by decide +kernel
theorem d_S_askTriple_37 : decode b_S_askTriple 37 = .ok (.iconst 1, 1) := by decide +kernel
theorem d_S_askTriple_38 : decode b_S_askTriple 38 = .ok (.if_icmp .eq 6, 3) := by decide +kernel
theorem d_S_askTriple_41 : decode b_S_askTriple 41 = .ok (.iload 4, 2) := by decide +kernel
theorem d_S_askTriple_43 : decode b_S_askTriple 43 = .ok (.ireturn, 1) := by decide +kernel
theorem d_S_askTriple_44 : decode b_S_askTriple 44 = .ok (.aload_n 0, 1) := by decide +kernel
theorem d_S_askTriple_45 : decode b_S_askTriple 45 = .ok (.getfield 16, 3) := by decide +kernel
theorem d_S_askTriple_48 : decode b_S_askTriple 48 = .ok (.iload_n 1, 1) := by decide +kernel
theorem d_S_askTriple_49 : decode b_S_askTriple 49 = .ok (.iconst 3, 1) := by decide +kernel
theorem d_S_askTriple_50 : decode b_S_askTriple 50 = .ok (.iastore, 1) := by decide +kernel
theorem d_S_askTriple_51 : decode b_S_askTriple 51 = .ok (.aload_n 0, 1) := by decide +kernel
theorem d_S_askTriple_52 : decode b_S_askTriple 52 = .ok (.iload_n 2, 1) := by decide +kernel
theorem d_S_askTriple_53 : decode b_S_askTriple 53 = .ok (.invokevirtual 52, 3) := by decide +kernel
theorem d_S_askTriple_56 : decode b_S_askTriple 56 = .ok (.aload_n 0, 1) := by decide +kernel
theorem d_S_askTriple_57 : decode b_S_askTriple 57 = .ok (.iload_n 2, 1) := by decide +kernel
theorem d_S_askTriple_58 : decode b_S_askTriple 58 = .ok (.invokevirtual 56, 3) := by decide +kernel
theorem d_S_askTriple_61 : decode b_S_askTriple 61 = .ok (.istore 4, 2) := by decide +kernel
theorem d_S_askTriple_63 : decode b_S_askTriple 63 = .ok (.iload 4, 2) := by decide +kernel
theorem d_S_askTriple_65 : decode b_S_askTriple 65 = .ok (.ifCond .eq 6, 3) := by decide +kernel
theorem d_S_askTriple_68 : decode b_S_askTriple 68 = .ok (.iload 4, 2) := by decide +kernel
theorem d_S_askTriple_70 : decode b_S_askTriple 70 = .ok (.ireturn, 1) := by decide +kernel
theorem d_S_askTriple_71 : decode b_S_askTriple 71 = .ok (.aload_n 0, 1) := by decide +kernel
theorem d_S_askTriple_72 : decode b_S_askTriple 72 = .ok (.getfield 16, 3) := by decide +kernel
theorem d_S_askTriple_75 : decode b_S_askTriple 75 = .ok (.iload_n 1, 1) := by decide +kernel
theorem d_S_askTriple_76 : decode b_S_askTriple 76 = .ok (.iconst 2, 1) := by decide +kernel
theorem d_S_askTriple_77 : decode b_S_askTriple 77 = .ok (.iastore, 1) := by decide +kernel
theorem d_S_askTriple_78 : decode b_S_askTriple 78 = .ok (.iinc 3 1, 3) := by decide +kernel
theorem d_S_askTriple_81 : decode b_S_askTriple 81 = .ok (.goto (-69), 3) := by decide +kernel
theorem d_S_askTriple_84 : decode b_S_askTriple 84 = .ok (.iconst 0, 1) := by decide +kernel
theorem d_S_askTriple_85 : decode b_S_askTriple 85 = .ok (.ireturn, 1) := by decide +kernel
