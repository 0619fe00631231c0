/-! decoded rows -/
theorem d_M_ask_32 : decode b_M_ask 32 = .ok (.iadd, 1) := by decide +kernel
theorem d_M_ask_33 : decode b_M_ask 33 = .ok (.putfield 86, 3) := by decide +kernel
theorem d_M_ask_36 : decode b_M_ask 36 = .ok (.iconst 2, 1) := by decide +kernel
theorem d_M_ask_37 : decode b_M_ask 37 = .ok (.ireturn, 1) := by decide +kernel
theorem d_M_first_0 : decode b_M_first 0 = .ok (.aload_n 0, 1) := by decide +kernel
theorem d_M_first_1 : decode b_M_first 1 = .ok (.getfield 26, 3) := by decide +kernel
theorem d_M_first_4 : decode b_M_first 4 = .ok (.aload_n 0, 1) := by decide +kernel
theorem d_M_first_5 : decode b_M_first 5 = .ok (.getfield 16, 3) := by decide +kernel
theorem d_M_first_8 : decode b_M_first 8 = .ok (.iconst 3, 1) := by decide +kernel
theorem d_M_first_9 : decode b_M_first 9 = .ok (.iload_n 1, 1) := by decide +kernel
theorem d_M_first_10 : decode b_M_first 10 = .ok (.imul, 1) := by decide +kernel
theorem d_M_first_11 : decode b_M_first 11 = .ok (.iload_n 2, 1) := by decide +kernel
theorem d_M_first_12 : decode b_M_first 12 = .ok (.iadd, 1) := by decide +kernel
theorem d_M_first_13 : decode b_M_first 13 = .ok (.iaload, 1) := by decide +kernel
theorem d_M_first_14 : decode b_M_first 14 = .ok (.iconst 0, 1) := by decide +kernel
theorem d_M_first_15 : decode b_M_first 15 = .ok (.iastore, 1) := by decide +kernel
theorem d_M_first_16 : decode b_M_first 16 = .ok (.aload_n 0, 1) := by decide +kernel
theorem d_M_first_17 : decode b_M_first 17 = .ok (.iload_n 1, 1) := by decide +kernel
theorem d_M_first_18 : decode b_M_first 18 = .ok (.iload_n 2, 1) := by decide +kernel
theorem d_M_first_19 : decode b_M_first 19 = .ok (.iload_n 3, 1) := by decide +kernel
theorem d_M_first_20 : decode b_M_first 20 = .ok (.invokevirtual 89, 3) := by decide +kernel
theorem d_M_first_23 : decode b_M_first 23 = .ok (.ireturn, 1) := by decide +kernel
theorem d_M_step_0 : decode b_M_step 0 = .ok (.aload_n 0, 1) := by decide +kernel
theorem d_M_step_1 : decode b_M_step 1 = .ok (.getfield 7, 3) := by decide +kernel
theorem d_M_step_4 : decode b_M_step 4 = .ok (.iload_n 1, 1) := by decide +kernel
theorem d_M_step_5 : decode b_M_step 5 = .ok (.iaload, 1) := by decide +kernel
theorem d_M_step_6 : decode b_M_step 6 = .ok (.istore_n 3, 1) := by decide +kernel
theorem d_M_step_7 : decode b_M_step 7 = .ok (.iload_n 3, 1) := by decide +kernel
theorem d_M_step_8 : decode b_M_step 8 = .ok (.bipush 10, 2) := by decide +kernel
theorem d_M_step_10 : decode b_M_step 10 = .ok (.if_icmp .ge 9, 3) := by decide +kernel
theorem d_M_step_13 : decode b_M_step 13 = .ok (.aload_n 0, 1) := by decide +kernel
theorem d_M_step_14 : decode b_M_step 14 = .ok (.iload_n 1, 1) := by decide +kernel
theorem d_M_step_15 : decode b_M_step 15 = .ok (.invokevirtual 93, 3) := by decide +kernel
theorem d_M_step_18 : decode b_M_step 18 = .ok (.ireturn, 1) := by decide +kernel
theorem d_M_step_19 : decode b_M_step 19 = .ok (.iload_n 3, 1) := by decide +kernel
theorem d_M_step_20 : decode b_M_step 20 = .ok (.bipush 20, 2) := by decide +kernel
theorem d_M_step_22 : decode b_M_step 22 = .ok (.if_icmp .ge 10, 3) := by decide +kernel
theorem d_M_step_25 : decode b_M_step 25 = .ok (.aload_n 0, 1) := by decide +kernel
theorem d_M_step_26 : decode b_M_step 26 = .ok (.iload_n 1, 1) := by decide +kernel
theorem d_M_step_27 : decode b_M_step 27 = .ok (.iload_n 2, 1) := by decide +kernel
theorem d_M_step_28 : decode b_M_step 28 = .ok (.invokevirtual 96, 3) := by decide +kernel
theorem d_M_step_31 : decode b_M_step 31 = .ok (.ireturn, 1) := by decide +kernel
theorem d_M_step_32 : decode b_M_step 32 = .ok (.iload_n 3, 1) := by decide +kernel
theorem d_M_step_33 : decode b_M_step 33 = .ok (.bipush 21, 2) := by decide +kernel
theorem d_M_step_35 : decode b_M_step 35 = .ok (.if_icmp .lt 16, 3) := by decide +kernel
theorem d_M_step_38 : decode b_M_step 38 = .ok (.iload_n 3, 1) := by decide +kernel
theorem d_M_step_39 : decode b_M_step 39 = .ok (.bipush 27, 2) := by decide +kernel
theorem d_M_step_41 : decode b_M_step 41 = .ok (.if_icmp .gt 10, 3) := by decide +kernel
theorem d_M_step_44 : decode b_M_step 44 = .ok (.aload_n 0, 1) := by decide +kernel
theorem d_M_step_45 : decode b_M_step 45 = .ok (.iload_n 1, 1) := by decide +kernel
theorem d_M_step_46 : decode b_M_step 46 = .ok (.iload_n 2, 1) := by decide +kernel
theorem d_M_step_47 : decode b_M_step 47 = .ok (.invokevirtual 100, 3) := by decide +kernel
theorem d_M_step_50 : decode b_M_step 50 = .ok (.ireturn, 1) := by decide +kernel
theorem d_M_step_51 : decode b_M_step 51 = .ok (.iload_n 3, 1) := by decide +kernel
theorem d_M_step_52 : decode b_M_step 52 = .ok (.bipush 40, 2) := by decide +kernel
theorem d_M_step_54 : decode b_M_step 54 = .ok (.if_icmp .ge 10, 3) := by decide +kernel
theorem d_M_step_57 : decode b_M_step 57 = .ok (.aload_n 0, 1) := by decide +kernel
theorem d_M_step_58 : decode b_M_step 58 = .ok (.iload_n 1, 1) := by decide +kernel
theorem d_M_step_59 : decode b_M_step 59 = .ok (.iload_n 2, 1) := by decide +kernel
theorem d_M_step_60 : decode b_M_step 60 = .ok (.invokevirtual 103, 3) := by decide +kernel
theorem d_M_step_63 : decode b_M_step 63 = .ok (.ireturn, 1) := by decide +kernel
theorem d_M_step_64 : decode b_M_step 64 = .ok (.iload_n 3, 1) := by decide +kernel
theorem d_M_step_65 : decode b_M_step 65 = .ok (.bipush 40, 2) := by decide +kernel
theorem d_M_step_67 : decode b_M_step 67 = .ok (.if_icmp .ne 12, 3) := by decide +kernel
theorem d_M_step_70 : decode b_M_step 70 = .ok (.aload_n 0, 1) := by decide +kernel
theorem d_M_step_71 : decode b_M_step 71 = .ok (.iload_n 1, 1) := by decide +kernel
theorem d_M_step_72 : decode b_M_step 72 = .ok (.iload_n 2, 1) := by decide +kernel
theorem d_M_step_73 : decode b_M_step 73 = .ok (.invokevirtual 106, 3) := by decide +kernel
theorem d_M_step_76 : decode b_M_step 76 = .ok (.goto 9, 3) := by decide +kernel
theorem d_M_step_79 : decode b_M_step 79 = .ok (.aload_n 0, 1) := by decide +kernel
theorem d_M_step_80 : decode b_M_step 80 = .ok (.iload_n 1, 1) := by decide +kernel
theorem d_M_step_81 : decode b_M_step 81 = .ok (.iload_n 2, 1) := by decide +kernel
theorem d_M_step_82 : decode b_M_step 82 = .ok (.invokevirtual 109, 3) := by decide +kernel
theorem d_M_step_85 : decode b_M_step 85 = .ok (.ireturn, 1) := by decide +kernel
theorem d_M_leafStep_0 : decode b_M_leafStep 0 = .ok (.aload_n 0, 1) := by decide +kernel
theorem d_M_leafStep_1 : decode b_M_leafStep 1 = .ok (.getfield 26, 3) := by decide +kernel
theorem d_M_leafStep_4 : decode b_M_leafStep 4 = .ok (.iload_n 1, 1) := by decide +kernel
theorem d_M_leafStep_5 : decode b_M_leafStep 5 = .ok (.iaload, 1) := by decide +kernel
theorem d_M_leafStep_6 : decode b_M_leafStep 6 = .ok (.iconst 1, 1) := by decide +kernel
theorem d_M_leafStep_7 : decode b_M_leafStep 7 = .ok (.if_icmp .ne 5, 3) := by decide +kernel
theorem d_M_leafStep_10 : decode b_M_leafStep 10 = .ok (.iconst 0, 1) := by decide +kernel
theorem d_M_leafStep_11 : decode b_M_leafStep 11 = .ok (.ireturn, 1) := by decide +kernel
theorem d_M_leafStep_12 : decode b_M_leafStep 12 = .ok (.aload_n 0, 1) := by decide +kernel
theorem d_M_leafStep_13 : decode b_M_leafStep 13 = .ok (.getfield 26, 3) := by decide +kernel
theorem d_M_leafStep_16 : decode b_M_leafStep 16 = .ok (.iload_n 1, 1) := by decide +kernel
theorem d_M_leafStep_17 : decode b_M_leafStep 17 = .ok (.iconst 1, 1) := by decide +kernel
theorem d_M_leafStep_18 : decode b_M_leafStep 18 = .ok (.iastore, 1) := by decide +kernel
theorem d_M_leafStep_19 : decode b_M_leafStep 19 = .ok (.aload_n 0, 1) := by decide +kernel
theorem d_M_leafStep_20 : decode b_M_leafStep 20 = .ok (.aload_n 0, 1) := by decide +kernel
theorem d_M_leafStep_21 : decode b_M_leafStep 21 = .ok (.getfield 7, 3) := by decide +kernel
theorem d_M_leafStep_24 : decode b_M_leafStep 24 = .ok (.iload_n 1, 1) := by decide +kernel
theorem d_M_leafStep_25 : decode b_M_leafStep 25 = .ok (.iaload, 1) := by decide +kernel
theorem d_M_leafStep_26 : decode b_M_leafStep 26 = .ok (.ifCond .ne 12, 3) := by decide +kernel
theorem d_M_leafStep_29 : decode b_M_leafStep 29 = .ok (.aload_n 0, 1) := by decide +kernel
theorem d_M_leafStep_30 : decode b_M_leafStep 30 = .ok (.getfield 13, 3) := by decide +kernel
theorem d_M_leafStep_33 : decode b_M_leafStep 33 = .ok (.iload_n 1, 1) := by decide +kernel
theorem d_M_leafStep_34 : decode b_M_leafStep 34 = .ok (.iaload, 1) := by decide +kernel
theorem d_M_leafStep_35 : decode b_M_leafStep 35 = .ok (.goto 14, 3) := by decide +kernel
theorem d_M_leafStep_38 : decode b_M_leafStep 38 = .ok (.aload_n 0, 1) := by decide +kernel
theorem d_M_leafStep_39 : decode b_M_leafStep 39 = .ok (.getfield 33, 3) := by decide +kernel
theorem d_M_leafStep_42 : decode b_M_leafStep 42 = .ok (.aload_n 0, 1) := by decide +kernel
theorem d_M_leafStep_43 : decode b_M_leafStep 43 = .ok (.getfield 13, 3) := by decide +kernel
theorem d_M_leafStep_46 : decode b_M_leafStep 46 = .ok (.iload_n 1, 1) := by decide +kernel
theorem d_M_leafStep_47 : decode b_M_leafStep 47 = .ok (.iaload, 1) := by decide +kernel
theorem d_M_leafStep_48 : decode b_M_leafStep 48 = .ok (.iaload, 1) := by decide +kernel
theorem d_M_leafStep_49 : decode b_M_leafStep 49 = .ok (.invokevirtual 112, 3) := by decide +kernel
theorem d_M_leafStep_52 : decode b_M_leafStep 52 = .ok (.ireturn, 1) := by decide +kernel
theorem d_M_unaryStep_0 : decode b_M_unaryStep 0 = .ok (.aload_n 0, 1) := by decide +kernel
theorem d_M_unaryStep_1 : decode b_M_unaryStep 1 = .ok (.getfield 7, 3) := by decide +kernel
theorem d_M_unaryStep_4 : decode b_M_unaryStep 4 = .ok (.iload_n 1, 1) := by decide +kernel
theorem d_M_unaryStep_5 : decode b_M_unaryStep 5 = .ok (.iaload, 1) := by decide +kernel
theorem d_M_unaryStep_6 : decode b_M_unaryStep 6 = .ok (.bipush 10, 2) := by decide +kernel
theorem d_M_unaryStep_8 : decode b_M_unaryStep 8 = .ok (.isub, 1) := by decide +kernel
theorem d_M_unaryStep_9 : decode b_M_unaryStep 9 = .ok (.istore_n 3, 1) := by decide +kernel
theorem d_M_unaryStep_10 : decode b_M_unaryStep 10 = .ok (.iload_n 3, 1) := by decide +kernel
theorem d_M_unaryStep_11 : decode b_M_unaryStep 11 = .ok (.iconst 2, 1) := by decide +kernel
theorem d_M_unaryStep_12 : decode b_M_unaryStep 12 = .ok (.if_icmp .ne 49, 3) := by decide +kernel
theorem d_M_unaryStep_15 : decode b_M_unaryStep 15 = .ok (.aload_n 0, 1) := by decide +kernel
theorem d_M_unaryStep_16 : decode b_M_unaryStep 16 = .ok (.getfield 26, 3) := by decide +kernel
theorem d_M_unaryStep_19 : decode b_M_unaryStep 19 = .ok (.iload_n 1, 1) := by decide +kernel
theorem d_M_unaryStep_20 : decode b_M_unaryStep 20 = .ok (.iaload, 1) := by decide +kernel
theorem d_M_unaryStep_21 : decode b_M_unaryStep 21 = .ok (.iconst 2, 1) := by decide +kernel
theorem d_M_unaryStep_22 : decode b_M_unaryStep 22 = .ok (.if_icmp .ne 5, 3) := by decide +kernel
theorem d_M_unaryStep_25 : decode b_M_unaryStep 25 = .ok (.iconst 0, 1) := by decide +kernel
theorem d_M_unaryStep_26 : decode b_M_unaryStep 26 = .ok (.ireturn, 1) := by decide +kernel
theorem d_M_unaryStep_27 : decode b_M_unaryStep 27 = .ok (.iload_n 2, 1) := by decide +kernel
theorem d_M_unaryStep_28 : decode b_M_unaryStep 28 = .ok (.ifCond .ne 11, 3) := by decide +kernel
theorem d_M_unaryStep_31 : decode b_M_unaryStep 31 = .ok (.aload_n 0, 1) := by decide +kernel
theorem d_M_unaryStep_32 : decode b_M_unaryStep 32 = .ok (.iload_n 1, 1) := by decide +kernel
theorem d_M_unaryStep_33 : decode b_M_unaryStep 33 = .ok (.iconst 0, 1) := by decide +kernel
theorem d_M_unaryStep_34 : decode b_M_unaryStep 34 = .ok (.iconst 1, 1) := by decide +kernel
theorem d_M_unaryStep_35 : decode b_M_unaryStep 35 = .ok (.invokevirtual 115, 3) := by decide +kernel
theorem d_M_unaryStep_38 : decode b_M_unaryStep 38 = .ok (.ireturn, 1) := by decide +kernel
theorem d_M_unaryStep_39 : decode b_M_unaryStep 39 = .ok (.aload_n 0, 1) := by decide +kernel
theorem d_M_unaryStep_40 : decode b_M_unaryStep 40 = .ok (.getfield 26, 3) := by decide +kernel
theorem d_M_unaryStep_43 : decode b_M_unaryStep 43 = .ok (.iload_n 1, 1) := by decide +kernel
theorem d_M_unaryStep_44 : decode b_M_unaryStep 44 = .ok (.iconst 2, 1) := by decide +kernel
theorem d_M_unaryStep_45 : decode b_M_unaryStep 45 = .ok (.iastore, 1) := by decide +kernel
theorem d_M_unaryStep_46 : decode b_M_unaryStep 46 = .ok (.iload_n 2, 1) := by decide +kernel
theorem d_M_unaryStep_47 : decode b_M_unaryStep 47 = .ok (.iconst 1, 1) := by decide +kernel
theorem d_M_unaryStep_48 : decode b_M_unaryStep 48 = .ok (.if_icmp .ne 7, 3) := by decide +kernel
theorem d_M_unaryStep_51 : decode b_M_unaryStep 51 = .ok (.iconst 0, 1) := by decide +kernel
theorem d_M_unaryStep_52 : decode b_M_unaryStep 52 = .ok (.goto 8, 3) := by decide +kernel
theorem d_M_unaryStep_55 : decode b_M_unaryStep 55 = .ok (.aload_n 0, 1) := by decide +kernel
theorem d_M_unaryStep_56 : decode b_M_unaryStep 56 = .ok (.iconst 0, 1) := by decide +kernel
theorem d_M_unaryStep_57 : decode b_M_unaryStep 57 = .ok (.invokevirtual 82, 3) := by decide +kernel
theorem d_M_unaryStep_60 : decode b_M_unaryStep 60 = .ok (.ireturn, 1) := by decide +kernel
theorem d_M_unaryStep_61 : decode b_M_unaryStep 61 = .ok (.iload_n 2, 1) := by decide +kernel
theorem d_M_unaryStep_62 : decode b_M_unaryStep 62 = .ok (.ifCond .ne 38, 3) := by decide +kernel
theorem d_M_unaryStep_65 : decode b_M_unaryStep 65 = .ok (.aload_n 0, 1) := by decide +kernel
theorem d_M_unaryStep_66 : decode b_M_unaryStep 66 = .ok (.getfield 26, 3) := by decide +kernel
theorem d_M_unaryStep_69 : decode b_M_unaryStep 69 = .ok (.iload_n 1, 1) := by decide +kernel
theorem d_M_unaryStep_70 : decode b_M_unaryStep 70 = .ok (.iaload, 1) := by decide +kernel
theorem d_M_unaryStep_71 : decode b_M_unaryStep 71 = .ok (.iconst 1, 1) := by decide +kernel
theorem d_M_unaryStep_72 : decode b_M_unaryStep 72 = .ok (.if_icmp .ne 11, 3) := by decide +kernel
theorem d_M_unaryStep_75 : decode b_M_unaryStep 75 = .ok (.aload_n 0, 1) := by decide +kernel
theorem d_M_unaryStep_76 : decode b_M_unaryStep 76 = .ok (.iload_n 1, 1) := by decide +kernel
theorem d_M_unaryStep_77 : decode b_M_unaryStep 77 = .ok (.iconst 0, 1) := by decide +kernel
theorem d_M_unaryStep_78 : decode b_M_unaryStep 78 = .ok (.iconst 1, 1) := by decide +kernel
theorem d_M_unaryStep_79 : decode b_M_unaryStep 79 = .ok (.invokevirtual 89, 3) := by decide +kernel
theorem d_M_unaryStep_82 : decode b_M_unaryStep 82 = .ok (.ireturn, 1) := by decide +kernel
theorem d_M_unaryStep_83 : decode b_M_unaryStep 83 = .ok (.aload_n 0, 1) := by decide +kernel
theorem d_M_unaryStep_84 : decode b_M_unaryStep 84 = .ok (.getfield 29, 3) := by decide +kernel
theorem d_M_unaryStep_87 : decode b_M_unaryStep 87 = .ok (.iconst 3, 1) := by decide +kernel
theorem d_M_unaryStep_88 : decode b_M_unaryStep 88 = .ok (.iload_n 1, 1) := by decide +kernel
theorem d_M_unaryStep_89 : decode b_M_unaryStep 89 = .ok (.imul, 1) := by decide +kernel
theorem d_M_unaryStep_90 : decode b_M_unaryStep 90 = .ok (.lconst 0, 1) := by decide +kernel
theorem d_M_unaryStep_91 : decode b_M_unaryStep 91 = .ok (.lastore, 1) := by decide +kernel
theorem d_M_unaryStep_92 : decode b_M_unaryStep 92 = .ok (.aload_n 0, 1) := by decide +kernel
theorem d_M_unaryStep_93 : decode b_M_unaryStep 93 = .ok (.iload_n 1, 1) := by decide +kernel
theorem d_M_unaryStep_94 : decode b_M_unaryStep 94 = .ok (.iconst 0, 1) := by decide +kernel
theorem d_M_unaryStep_95 : decode b_M_unaryStep 95 = .ok (.iconst 1, 1) := by decide +kernel
theorem d_M_unaryStep_96 : decode b_M_unaryStep 96 = .ok (.invokevirtual 115, 3) := by decide +kernel
theorem d_M_unaryStep_99 : decode b_M_unaryStep 99 = .ok (.ireturn, 1) := by decide +kernel
theorem d_M_unaryStep_100 : decode b_M_unaryStep 100 = .ok (.iload_n 2, 1) := by decide +kernel
theorem d_M_unaryStep_101 : decode b_M_unaryStep 101 = .ok (.iconst 2, 1) := by decide +kernel
theorem d_M_unaryStep_102 : decode b_M_unaryStep 102 = .ok (.if_icmp .ne 40, 3) := by decide +kernel
theorem d_M_unaryStep_105 : decode b_M_unaryStep 105 = .ok (.iload_n 3, 1) := by decide +kernel
theorem d_M_unaryStep_106 : decode b_M_unaryStep 106 = .ok (.iconst 3, 1) := by decide +kernel
theorem d_M_unaryStep_107 : decode b_M_unaryStep 107 = .ok (.if_icmp .ne 16, 3) := by decide +kernel
theorem d_M_unaryStep_110 : decode b_M_unaryStep 110 = .ok (.aload_n 0, 1) := by decide +kernel
theorem d_M_unaryStep_111 : decode b_M_unaryStep 111 = .ok (.getfield 29, 3) := by decide +kernel
theorem d_M_unaryStep_114 : decode b_M_unaryStep 114 = .ok (.iconst 3, 1) := by decide +kernel
theorem d_M_unaryStep_115 : decode b_M_unaryStep 115 = .ok (.iload_n 1, 1) := by decide +kernel
theorem d_M_unaryStep_116 : decode b_M_unaryStep 116 = .ok (.imul, 1) := by decide +kernel
theorem d_M_unaryStep_117 : decode b_M_unaryStep 117 = .ok (.laload, 1) := by decide +kernel
theorem d_M_unaryStep_118 : decode b_M_unaryStep 118 = .ok (.lconst 0, 1) := by decide +kernel
theorem d_M_unaryStep_119 : decode b_M_unaryStep 119 = .ok (.lcmp, 1) := by decide +kernel
theorem d_M_unaryStep_120 : decode b_M_unaryStep 120 = .ok (.ifCond .ne 5, 3) := by decide +kernel
theorem d_M_unaryStep_123 : decode b_M_unaryStep 123 = .ok (.iconst 0, 1) := by decide +kernel
theorem d_M_unaryStep_124 : decode b_M_unaryStep 124 = .ok (.ireturn, 1) := by decide +kernel
theorem d_M_unaryStep_125 : decode b_M_unaryStep 125 = .ok (.aload_n 0, 1) := by decide +kernel
theorem d_M_unaryStep_126 : decode b_M_unaryStep 126 = .ok (.getfield 29, 3) := by decide +kernel
theorem d_M_unaryStep_129 : decode b_M_unaryStep 129 = .ok (.iconst 3, 1) := by decide +kernel
theorem d_M_unaryStep_130 : decode b_M_unaryStep 130 = .ok (.iload_n 1, 1) := by decide +kernel
theorem d_M_unaryStep_131 : decode b_M_unaryStep 131 = .ok (.imul, 1) := by decide +kernel
theorem d_M_unaryStep_132 : decode b_M_unaryStep 132 = .ok (.lconst 0, 1) := by decide +kernel
theorem d_M_unaryStep_133 : decode b_M_unaryStep 133 = .ok (.lastore, 1) := by decide +kernel
theorem d_M_unaryStep_134 : decode b_M_unaryStep 134 = .ok (.aload_n 0, 1) := by decide +kernel
theorem d_M_unaryStep_135 : decode b_M_unaryStep 135 = .ok (.iload_n 1, 1) := by decide +kernel
theorem d_M_unaryStep_136 : decode b_M_unaryStep 136 = .ok (.iconst 0, 1) := by decide +kernel
theorem d_M_unaryStep_137 : decode b_M_unaryStep 137 = .ok (.iconst 1, 1) := by decide +kernel
theorem d_M_unaryStep_138 : decode b_M_unaryStep 138 = .ok (.invokevirtual 115, 3) := by decide +kernel
theorem d_M_unaryStep_141 : decode b_M_unaryStep 141 = .ok (.ireturn, 1) := by decide +kernel
theorem d_M_unaryStep_142 : decode b_M_unaryStep 142 = .ok (.aload_n 0, 1) := by decide +kernel
theorem d_M_unaryStep_143 : decode b_M_unaryStep 143 = .ok (.getfield 29, 3) := by decide +kernel
theorem d_M_unaryStep_146 : decode b_M_unaryStep 146 = .ok (.iconst 3, 1) := by decide +kernel
theorem d_M_unaryStep_147 : decode b_M_unaryStep 147 = .ok (.iload_n 1, 1) := by decide +kernel
theorem d_M_unaryStep_148 : decode b_M_unaryStep 148 = .ok (.imul, 1) := by decide +kernel
theorem d_M_unaryStep_149 : decode b_M_unaryStep 149 = .ok (.lconst 1, 1) := by decide +kernel
theorem d_M_unaryStep_150 : decode b_M_unaryStep 150 = .ok (.lastore, 1) := by decide +kernel
theorem d_M_unaryStep_151 : decode b_M_unaryStep 151 = .ok (.iload_n 3, 1) := by decide +kernel
theorem d_M_unaryStep_152 : decode b_M_unaryStep 152 = .ok (.ifCond .ne 18, 3) := by decide +kernel
theorem d_M_unaryStep_155 : decode b_M_unaryStep 155 = .ok (.aload_n 0, 1) := by decide +kernel
theorem d_M_unaryStep_156 : decode b_M_unaryStep 156 = .ok (.getfield 33, 3) := by decide +kernel
theorem d_M_unaryStep_159 : decode b_M_unaryStep 159 = .ok (.aload_n 0, 1) := by decide +kernel
theorem d_M_unaryStep_160 : decode b_M_unaryStep 160 = .ok (.getfield 13, 3) := by decide +kernel
theorem d_M_unaryStep_163 : decode b_M_unaryStep 163 = .ok (.iload_n 1, 1) := by decide +kernel
theorem d_M_unaryStep_164 : decode b_M_unaryStep 164 = .ok (.iaload, 1) := by decide +kernel
theorem d_M_unaryStep_165 : decode b_M_unaryStep 165 = .ok (.aload_n 0, 1) := by decide +kernel
theorem d_M_unaryStep_166 : decode b_M_unaryStep 166 = .ok (.getfield 76, 3) := by decide +kernel
theorem d_M_unaryStep_169 : decode b_M_unaryStep 169 = .ok (.iastore, 1) := by decide +kernel
theorem d_M_unaryStep_170 : decode b_M_unaryStep 170 = .ok (.iload_n 3, 1) := by decide +kernel
theorem d_M_unaryStep_171 : decode b_M_unaryStep 171 = .ok (.iconst 1, 1) := by decide +kernel
theorem d_M_unaryStep_172 : decode b_M_unaryStep 172 = .ok (.if_icmp .ne 43, 3) := by decide +kernel
theorem d_M_unaryStep_175 : decode b_M_unaryStep 175 = .ok (.aload_n 0, 1) := by decide +kernel
theorem d_M_unaryStep_176 : decode b_M_unaryStep 176 = .ok (.getfield 73, 3) := by decide +kernel
theorem d_M_unaryStep_179 : decode b_M_unaryStep 179 = .ok (.bipush 32, 2) := by decide +kernel
theorem d_M_unaryStep_181 : decode b_M_unaryStep 181 = .ok (.if_icmp .ne 11, 3) := by decide +kernel
theorem d_M_unaryStep_184 : decode b_M_unaryStep 184 = .ok (.aload_n 0, 1) := by decide +kernel
theorem d_M_unaryStep_185 : decode b_M_unaryStep 185 = .ok (.bipush (-6), 2) := by decide +kernel
theorem d_M_unaryStep_187 : decode b_M_unaryStep 187 = .ok (.putfield 79, 3) := by decide +kernel
theorem d_M_unaryStep_190 : decode b_M_unaryStep 190 = .ok (.iconst 0, 1) := by decide +kernel
theorem d_M_unaryStep_191 : decode b_M_unaryStep 191 = .ok (.ireturn, 1) := by decide +kernel
theorem d_M_unaryStep_192 : decode b_M_unaryStep 192 = .ok (.aload_n 0, 1) := by decide +kernel
theorem d_M_unaryStep_193 : decode b_M_unaryStep 193 = .ok (.getfield 36, 3) := by decide +kernel
theorem d_M_unaryStep_196 : decode b_M_unaryStep 196 = .ok (.aload_n 0, 1) := by decide +kernel
theorem d_M_unaryStep_197 : decode b_M_unaryStep 197 = .ok (.getfield 73, 3) := by decide +kernel
theorem d_M_unaryStep_200 : decode b_M_unaryStep 200 = .ok (.aload_n 0, 1) := by decide +kernel
theorem d_M_unaryStep_201 : decode b_M_unaryStep 201 = .ok (.getfield 76, 3) := by decide +kernel
theorem d_M_unaryStep_204 : decode b_M_unaryStep 204 = .ok (.iastore, 1) := by decide +kernel
theorem d_M_unaryStep_205 : decode b_M_unaryStep 205 = .ok (.aload_n 0, 1) := by decide +kernel
theorem d_M_unaryStep_206 : decode b_M_unaryStep 206 = .ok (.dup, 1) := by decide +kernel
theorem d_M_unaryStep_207 : decode b_M_unaryStep 207 = .ok (.getfield 73, 3) := by decide +kernel
theorem d_M_unaryStep_210 : decode b_M_unaryStep 210 = .ok (.iconst 1, 1) := by decide +kernel
theorem d_M_unaryStep_211 : decode b_M_unaryStep 211 = .ok (.iadd, 1) := by decide +kernel
theorem d_M_unaryStep_212 : decode b_M_unaryStep 212 = .ok (.putfield 73, 3) := by decide +kernel
theorem d_M_unaryStep_215 : decode b_M_unaryStep 215 = .ok (.iconst 1, 1) := by decide +kernel
theorem d_M_unaryStep_216 : decode b_M_unaryStep 216 = .ok (.ireturn, 1) := by decide +kernel
theorem d_M_pairStep_0 : decode b_M_pairStep 0 = .ok (.iload_n 2, 1) := by decide +kernel
theorem d_M_pairStep_1 : decode b_M_pairStep 1 = .ok (.ifCond .ne 30, 3) := by decide +kernel
theorem d_M_pairStep_4 : decode b_M_pairStep 4 = .ok (.aload_n 0, 1) := by decide +kernel
theorem d_M_pairStep_5 : decode b_M_pairStep 5 = .ok (.getfield 26, 3) := by decide +kernel
theorem d_M_pairStep_8 : decode b_M_pairStep 8 = .ok (.iload_n 1, 1) := by decide +kernel
theorem d_M_pairStep_9 : decode b_M_pairStep 9 = .ok (.iaload, 1) := by decide +kernel
theorem d_M_pairStep_10 : decode b_M_pairStep 10 = .ok (.ifCond .ne 13, 3) := by decide +kernel
theorem d_M_pairStep_13 : decode b_M_pairStep 13 = .ok (.aload_n 0, 1) := by decide +kernel
theorem d_M_pairStep_14 : decode b_M_pairStep 14 = .ok (.iload_n 1, 1) := by decide +kernel
theorem d_M_pairStep_15 : decode b_M_pairStep 15 = .ok (.iconst 0, 1) := by decide +kernel
theorem d_M_pairStep_16 : decode b_M_pairStep 16 = .ok (.iconst 1, 1) := by decide +kernel
theorem d_M_pairStep_17 : decode b_M_pairStep 17 = .ok (.invokevirtual 115, 3) := by decide +kernel
theorem d_M_pairStep_20 : decode b_M_pairStep 20 = .ok (.goto 10, 3) := by decide +kernel
theorem d_M_pairStep_23 : decode b_M_pairStep 23 = .ok (.aload_n 0, 1) := by decide +kernel
theorem d_M_pairStep_24 : decode b_M_pairStep 24 = .ok (.iload_n 1, 1) := by decide +kernel
theorem d_M_pairStep_25 : decode b_M_pairStep 25 = .ok (.iconst 1, 1) := by decide +kernel
theorem d_M_pairStep_26 : decode b_M_pairStep 26 = .ok (.iconst 2, 1) := by decide +kernel
theorem d_M_pairStep_27 : decode b_M_pairStep 27 = .ok (.invokevirtual 89, 3) := by decide +kernel
theorem d_M_pairStep_30 : decode b_M_pairStep 30 = .ok (.ireturn, 1) := by decide +kernel
theorem d_M_pairStep_31 : decode b_M_pairStep 31 = .ok (.aload_n 0, 1) := by decide +kernel
theorem d_M_pairStep_32 : decode b_M_pairStep 32 = .ok (.getfield 26, 3) := by decide +kernel
theorem d_M_pairStep_35 : decode b_M_pairStep 35 = .ok (.iload_n 1, 1) := by decide +kernel
theorem d_M_pairStep_36 : decode b_M_pairStep 36 = .ok (.iaload, 1) := by decide +kernel
theorem d_M_pairStep_37 : decode b_M_pairStep 37 = .ok (.iconst 1, 1) := by decide +kernel
theorem d_M_pairStep_38 : decode b_M_pairStep 38 = .ok (.if_icmp .ne 31, 3) := by decide +kernel
theorem d_M_pairStep_41 : decode b_M_pairStep 41 = .ok (.iload_n 2, 1) := by decide +kernel
theorem d_M_pairStep_42 : decode b_M_pairStep 42 = .ok (.iconst 2, 1) := by decide +kernel
theorem d_M_pairStep_43 : decode b_M_pairStep 43 = .ok (.if_icmp .ne 5, 3) := by decide +kernel
theorem d_M_pairStep_46 : decode b_M_pairStep 46 = .ok (.iconst 0, 1) := by decide +kernel
theorem d_M_pairStep_47 : decode b_M_pairStep 47 = .ok (.ireturn, 1) := by decide +kernel
theorem d_M_pairStep_48 : decode b_M_pairStep 48 = .ok (.aload_n 0, 1) := by decide +kernel
theorem d_M_pairStep_49 : decode b_M_pairStep 49 = .ok (.getfield 29, 3) := by decide +kernel
theorem d_M_pairStep_52 : decode b_M_pairStep 52 = .ok (.iconst 3, 1) := by decide +kernel
theorem d_M_pairStep_53 : decode b_M_pairStep 53 = .ok (.iload_n 1, 1) := by decide +kernel
theorem d_M_pairStep_54 : decode b_M_pairStep 54 = .ok (.imul, 1) := by decide +kernel
theorem d_M_pairStep_55 : decode b_M_pairStep 55 = .ok (.aload_n 0, 1) := by decide +kernel
theorem d_M_pairStep_56 : decode b_M_pairStep 56 = .ok (.getfield 76, 3) := by decide +kernel
theorem d_M_pairStep_59 : decode b_M_pairStep 59 = .ok (.i2l, 1) := by decide +kernel
theorem d_M_pairStep_60 : decode b_M_pairStep 60 = .ok (.lastore, 1) := by decide +kernel
theorem d_M_pairStep_61 : decode b_M_pairStep 61 = .ok (.aload_n 0, 1) := by decide +kernel
theorem d_M_pairStep_62 : decode b_M_pairStep 62 = .ok (.iload_n 1, 1) := by decide +kernel
theorem d_M_pairStep_63 : decode b_M_pairStep 63 = .ok (.iconst 1, 1) := by decide +kernel
theorem d_M_pairStep_64 : decode b_M_pairStep 64 = .ok (.iconst 2, 1) := by decide +kernel
theorem d_M_pairStep_65 : decode b_M_pairStep 65 = .ok (.invokevirtual 115, 3) := by decide +kernel
theorem d_M_pairStep_68 : decode b_M_pairStep 68 = .ok (.ireturn, 1) := by decide +kernel
theorem d_M_pairStep_69 : decode b_M_pairStep 69 = .ok (.iload_n 2, 1) := by decide +kernel
theorem d_M_pairStep_70 : decode b_M_pairStep 70 = .ok (.iconst 2, 1) := by decide +kernel
theorem d_M_pairStep_71 : decode b_M_pairStep 71 = .ok (.if_icmp .ne 11, 3) := by decide +kernel
theorem d_M_pairStep_74 : decode b_M_pairStep 74 = .ok (.aload_n 0, 1) := by decide +kernel
theorem d_M_pairStep_75 : decode b_M_pairStep 75 = .ok (.iload_n 1, 1) := by decide +kernel
theorem d_M_pairStep_76 : decode b_M_pairStep 76 = .ok (.iconst 0, 1) := by decide +kernel
theorem d_M_pairStep_77 : decode b_M_pairStep 77 = .ok (.iconst 1, 1) := by decide +kernel
theorem d_M_pairStep_78 : decode b_M_pairStep 78 = .ok (.invokevirtual 89, 3) := by decide +kernel
theorem d_M_pairStep_81 : decode b_M_pairStep 81 = .ok (.ireturn, 1) := by decide +kernel
theorem d_M_pairStep_82 : decode b_M_pairStep 82 = .ok (.aload_n 0, 1) := by decide +kernel
theorem d_M_pairStep_83 : decode b_M_pairStep 83 = .ok (.getfield 7, 3) := by decide +kernel
theorem d_M_pairStep_86 : decode b_M_pairStep 86 = .ok (.iload_n 1, 1) := by decide +kernel
theorem d_M_pairStep_87 : decode b_M_pairStep 87 = .ok (.iaload, 1) := by decide +kernel
theorem d_M_pairStep_88 : decode b_M_pairStep 88 = .ok (.bipush 20, 2) := by decide +kernel
theorem d_M_pairStep_90 : decode b_M_pairStep 90 = .ok (.isub, 1) := by decide +kernel
theorem d_M_pairStep_91 : decode b_M_pairStep 91 = .ok (.istore_n 3, 1) := by decide +kernel
theorem d_M_pairStep_92 : decode b_M_pairStep 92 = .ok (.aload_n 0, 1) := by decide +kernel
theorem d_M_pairStep_93 : decode b_M_pairStep 93 = .ok (.getfield 29, 3) := by decide +kernel
theorem d_M_pairStep_96 : decode b_M_pairStep 96 = .ok (.iconst 3, 1) := by decide +kernel
theorem d_M_pairStep_97 : decode b_M_pairStep 97 = .ok (.iload_n 1, 1) := by decide +kernel
theorem d_M_pairStep_98 : decode b_M_pairStep 98 = .ok (.imul, 1) := by decide +kernel
theorem d_M_pairStep_99 : decode b_M_pairStep 99 = .ok (.laload, 1) := by decide +kernel
theorem d_M_pairStep_100 : decode b_M_pairStep 100 = .ok (.lstore 4, 2) := by decide +kernel
theorem d_M_pairStep_102 : decode b_M_pairStep 102 = .ok (.iload_n 3, 1) := by decide +kernel
theorem d_M_pairStep_103 : decode b_M_pairStep 103 = .ok (.iconst 5, 1) := by decide +kernel
theorem d_M_pairStep_104 : decode b_M_pairStep 104 = .ok (.if_icmp .lt 87, 3) := by decide +kernel
theorem d_M_pairStep_107 : decode b_M_pairStep 107 = .ok (.iload_n 3, 1) := by decide +kernel
theorem d_M_pairStep_108 : decode b_M_pairStep 108 = .ok (.iconst 5, 1) := by decide +kernel
theorem d_M_pairStep_109 : decode b_M_pairStep 109 = .ok (.if_icmp .ne 22, 3) := by decide +kernel
theorem d_M_pairStep_112 : decode b_M_pairStep 112 = .ok (.lload 4, 2) := by decide +kernel
theorem d_M_pairStep_114 : decode b_M_pairStep 114 = .ok (.aload_n 0, 1) := by decide +kernel
theorem d_M_pairStep_115 : decode b_M_pairStep 115 = .ok (.getfield 76, 3) := by decide +kernel
theorem d_M_pairStep_118 : decode b_M_pairStep 118 = .ok (.i2l, 1) := by decide +kernel
theorem d_M_pairStep_119 : decode b_M_pairStep 119 = .ok (.lcmp, 1) := by decide +kernel
theorem d_M_pairStep_120 : decode b_M_pairStep 120 = .ok (.ifCond .ge 7, 3) := by decide +kernel
theorem d_M_pairStep_123 : decode b_M_pairStep 123 = .ok (.iconst 1, 1) := by decide +kernel
theorem d_M_pairStep_124 : decode b_M_pairStep 124 = .ok (.goto 48, 3) := by decide +kernel
theorem d_M_pairStep_127 : decode b_M_pairStep 127 = .ok (.iconst 0, 1) := by decide +kernel
theorem d_M_pairStep_128 : decode b_M_pairStep 128 = .ok (.goto 44, 3) := by decide +kernel
theorem d_M_pairStep_131 : decode b_M_pairStep 131 = .ok (.iload_n 3, 1) := by decide +kernel
theorem d_M_pairStep_132 : decode b_M_pairStep 132 = .ok (.bipush 6, 2) := by decide +kernel
theorem d_M_pairStep_134 : decode b_M_pairStep 134 = .ok (.if_icmp .ne 22, 3) := by decide +kernel
theorem d_M_pairStep_137 : decode b_M_pairStep 137 = .ok (.lload 4, 2) := by decide +kernel
theorem d_M_pairStep_139 : decode b_M_pairStep 139 = .ok (.aload_n 0, 1) := by decide +kernel
theorem d_M_pairStep_140 : decode b_M_pairStep 140 = .ok (.getfield 76, 3) := by decide +kernel
theorem d_M_pairStep_143 : decode b_M_pairStep 143 = .ok (.i2l, 1) := by decide +kernel
theorem d_M_pairStep_144 : decode b_M_pairStep 144 = .ok (.lcmp, 1) := by decide +kernel
theorem d_M_pairStep_145 : decode b_M_pairStep 145 = .ok (.ifCond .ne 7, 3) := by decide +kernel
theorem d_M_pairStep_148 : decode b_M_pairStep 148 = .ok (.iconst 1, 1) := by decide +kernel
theorem d_M_pairStep_149 : decode b_M_pairStep 149 = .ok (.goto 23, 3) := by decide +kernel
theorem d_M_pairStep_152 : decode b_M_pairStep 152 = .ok (.iconst 0, 1) := by decide +kernel
theorem d_M_pairStep_153 : decode b_M_pairStep 153 = .ok (.goto 19, 3) := by decide +kernel
theorem d_M_pairStep_156 : decode b_M_pairStep 156 = .ok (.lload 4, 2) := by decide +kernel
theorem d_M_pairStep_158 : decode b_M_pairStep 158 = .ok (.aload_n 0, 1) := by decide +kernel
theorem d_M_pairStep_159 : decode b_M_pairStep 159 = .ok (.getfield 76, 3) := by decide +kernel
theorem d_M_pairStep_162 : decode b_M_pairStep 162 = .ok (.i2l, 1) := by decide +kernel
theorem d_M_pairStep_163 : decode b_M_pairStep 163 = .ok (.lcmp, 1) := by decide +kernel
theorem d_M_pairStep_164 : decode b_M_pairStep 164 = .ok (.ifCond .eq 7, 3) := by decide +kernel
theorem d_M_pairStep_167 : decode b_M_pairStep 167 = .ok (.iconst 1, 1) := by decide +kernel
theorem d_M_pairStep_168 : decode b_M_pairStep 168 = .ok (.goto 4, 3) := by decide +kernel
theorem d_M_pairStep_171 : decode b_M_pairStep 171 = .ok (.iconst 0, 1) := by decide +kernel
theorem d_M_pairStep_172 : decode b_M_pairStep 172 = .ok (.istore 6, 2) := by decide +kernel
theorem d_M_pairStep_174 : decode b_M_pairStep 174 = .ok (.iload 6, 2) := by decide +kernel
theorem d_M_pairStep_176 : decode b_M_pairStep 176 = .ok (.ifCond .eq 7, 3) := by decide +kernel
theorem d_M_pairStep_179 : decode b_M_pairStep 179 = .ok (.iconst 1, 1) := by decide +kernel
theorem d_M_pairStep_180 : decode b_M_pairStep 180 = .ok (.goto 10, 3) := by decide +kernel
theorem d_M_pairStep_183 : decode b_M_pairStep 183 = .ok (.aload_n 0, 1) := by decide +kernel
theorem d_M_pairStep_184 : decode b_M_pairStep 184 = .ok (.iload_n 1, 1) := by decide +kernel
theorem d_M_pairStep_185 : decode b_M_pairStep 185 = .ok (.iconst 1, 1) := by decide +kernel
theorem d_M_pairStep_186 : decode b_M_pairStep 186 = .ok (.iconst 2, 1) := by decide +kernel
theorem d_M_pairStep_187 : decode b_M_pairStep 187 = .ok (.invokevirtual 89, 3) := by decide +kernel
theorem d_M_pairStep_190 : decode b_M_pairStep 190 = .ok (.ireturn, 1) := by decide +kernel
theorem d_M_pairStep_191 : decode b_M_pairStep 191 = .ok (.iload_n 3, 1) := by decide +kernel
theorem d_M_pairStep_192 : decode b_M_pairStep 192 = .ok (.iconst 1, 1) := by decide +kernel
theorem d_M_pairStep_193 : decode b_M_pairStep 193 = .ok (.if_icmp .ne 5, 3) := by decide +kernel
theorem d_M_pairStep_196 : decode b_M_pairStep 196 = .ok (.iconst 1, 1) := by decide +kernel
theorem d_M_pairStep_197 : decode b_M_pairStep 197 = .ok (.ireturn, 1) := by decide +kernel
theorem d_M_pairStep_198 : decode b_M_pairStep 198 = .ok (.iload_n 3, 1) := by decide +kernel
theorem d_M_pairStep_199 : decode b_M_pairStep 199 = .ok (.iconst 2, 1) := by decide +kernel
theorem d_M_pairStep_200 : decode b_M_pairStep 200 = .ok (.if_icmp .ne 14, 3) := by decide +kernel
theorem d_M_pairStep_203 : decode b_M_pairStep 203 = .ok (.lload 4, 2) := by decide +kernel
theorem d_M_pairStep_205 : decode b_M_pairStep 205 = .ok (.aload_n 0, 1) := by decide +kernel
theorem d_M_pairStep_206 : decode b_M_pairStep 206 = .ok (.getfield 76, 3) := by decide +kernel
theorem d_M_pairStep_209 : decode b_M_pairStep 209 = .ok (.i2l, 1) := by decide +kernel
theorem d_M_pairStep_210 : decode b_M_pairStep 210 = .ok (.ladd, 1) := by decide +kernel
theorem d_M_pairStep_211 : decode b_M_pairStep 211 = .ok (.goto 27, 3) := by decide +kernel
theorem d_M_pairStep_214 : decode b_M_pairStep 214 = .ok (.iload_n 3, 1) := by decide +kernel
theorem d_M_pairStep_215 : decode b_M_pairStep 215 = .ok (.iconst 3, 1) := by decide +kernel
theorem d_M_pairStep_216 : decode b_M_pairStep 216 = .ok (.if_icmp .ne 14, 3) := by decide +kernel
theorem d_M_pairStep_219 : decode b_M_pairStep 219 = .ok (.lload 4, 2) := by decide +kernel
theorem d_M_pairStep_221 : decode b_M_pairStep 221 = .ok (.aload_n 0, 1) := by decide +kernel
theorem d_M_pairStep_222 : decode b_M_pairStep 222 = .ok (.getfield 76, 3) := by decide +kernel
theorem d_M_pairStep_225 : decode b_M_pairStep 225 = .ok (.i2l, 1) := by decide +kernel
theorem d_M_pairStep_226 : decode b_M_pairStep 226 = .ok (.lsub, 1) := by decide +kernel
theorem d_M_pairStep_227 : decode b_M_pairStep 227 = .ok (.goto 11, 3) := by decide +kernel
theorem d_M_pairStep_230 : decode b_M_pairStep 230 = .ok (.lload 4, 2) := by decide +kernel
theorem d_M_pairStep_232 : decode b_M_pairStep 232 = .ok (.aload_n 0, 1) := by decide +kernel
theorem d_M_pairStep_233 : decode b_M_pairStep 233 = .ok (.getfield 76, 3) := by decide +kernel
theorem d_M_pairStep_236 : decode b_M_pairStep 236 = .ok (.i2l, 1) := by decide +kernel
theorem d_M_pairStep_237 : decode b_M_pairStep 237 = .ok (.lmul, 1) := by decide +kernel
theorem d_M_pairStep_238 : decode b_M_pairStep 238 = .ok (.lstore 6, 2) := by decide +kernel
theorem d_M_pairStep_240 : decode b_M_pairStep 240 = .ok (.lload 6, 2) := by decide +kernel
theorem d_M_pairStep_242 : decode b_M_pairStep 242 = .ok (.lload 6, 2) := by decide +kernel
theorem d_M_pairStep_244 : decode b_M_pairStep 244 = .ok (.l2i, 1) := by decide +kernel
theorem d_M_pairStep_245 : decode b_M_pairStep 245 = .ok (.i2l, 1) := by decide +kernel
theorem d_M_pairStep_246 : decode b_M_pairStep 246 = .ok (.lcmp, 1) := by decide +kernel
theorem d_M_pairStep_247 : decode b_M_pairStep 247 = .ok (.ifCond .eq 11, 3) := by decide +kernel
theorem d_M_pairStep_250 : decode b_M_pairStep 250 = .ok (.aload_n 0, 1) := by decide +kernel
theorem d_M_pairStep_251 : decode b_M_pairStep 251 = .ok (.bipush (-4), 2) := by decide +kernel
theorem d_M_pairStep_253 : decode b_M_pairStep 253 = .ok (.putfield 79, 3) := by decide +kernel
theorem d_M_pairStep_256 : decode b_M_pairStep 256 = .ok (.iconst 0, 1) := by decide +kernel
theorem d_M_pairStep_257 : decode b_M_pairStep 257 = .ok (.ireturn, 1) := by decide +kernel
theorem d_M_pairStep_258 : decode b_M_pairStep 258 = .ok (.aload_n 0, 1) := by decide +kernel
theorem d_M_pairStep_259 : decode b_M_pairStep 259 = .ok (.lload 6, 2) := by decide +kernel
theorem d_M_pairStep_261 : decode b_M_pairStep 261 = .ok (.l2i, 1) := by decide +kernel
theorem d_M_pairStep_262 : decode b_M_pairStep 262 = .ok (.invokevirtual 82, 3) := by decide +kernel
theorem d_M_pairStep_265 : decode b_M_pairStep 265 = .ok (.ireturn, 1) := by decide +kernel
theorem d_M_binaryStep_0 : decode b_M_binaryStep 0 = .ok (.aload_n 0, 1) := by decide +kernel
theorem d_M_binaryStep_1 : decode b_M_binaryStep 1 = .ok (.getfield 7, 3) := by decide +kernel
theorem d_M_binaryStep_4 : decode b_M_binaryStep 4 = .ok (.iload_n 1, 1) := by decide +kernel
theorem d_M_binaryStep_5 : decode b_M_binaryStep 5 = .ok (.iaload, 1) := by decide +kernel
theorem d_M_binaryStep_6 : decode b_M_binaryStep 6 = .ok (.bipush 20, 2) := by decide +kernel
theorem d_M_binaryStep_8 : decode b_M_binaryStep 8 = .ok (.isub, 1) := by decide +kernel
theorem d_M_binaryStep_9 : decode b_M_binaryStep 9 = .ok (.istore_n 3, 1) := by decide +kernel
theorem d_M_binaryStep_10 : decode b_M_binaryStep 10 = .ok (.aload_n 0, 1) := by decide +kernel
theorem d_M_binaryStep_11 : decode b_M_binaryStep 11 = .ok (.getfield 26, 3) := by decide +kernel
theorem d_M_binaryStep_14 : decode b_M_binaryStep 14 = .ok (.iload_n 1, 1) := by decide +kernel
theorem d_M_binaryStep_15 : decode b_M_binaryStep 15 = .ok (.iaload, 1) := by decide +kernel
theorem d_M_binaryStep_16 : decode b_M_binaryStep 16 = .ok (.istore 4, 2) := by decide +kernel
theorem d_M_binaryStep_18 : decode b_M_binaryStep 18 = .ok (.iload_n 3, 1) := by decide +kernel
theorem d_M_binaryStep_19 : decode b_M_binaryStep 19 = .ok (.ifCond .ne 59, 3) := by decide +kernel
theorem d_M_binaryStep_22 : decode b_M_binaryStep 22 = .ok (.iload_n 2, 1) := by decide +kernel
theorem d_M_binaryStep_23 : decode b_M_binaryStep 23 = .ok (.ifCond .ne 30, 3) := by decide +kernel
theorem d_M_binaryStep_26 : decode b_M_binaryStep 26 = .ok (.iload 4, 2) := by decide +kernel
theorem d_M_binaryStep_28 : decode b_M_binaryStep 28 = .ok (.ifCond .ne 13, 3) := by decide +kernel
theorem d_M_binaryStep_31 : decode b_M_binaryStep 31 = .ok (.aload_n 0, 1) := by decide +kernel
theorem d_M_binaryStep_32 : decode b_M_binaryStep 32 = .ok (.iload_n 1, 1) := by decide +kernel
theorem d_M_binaryStep_33 : decode b_M_binaryStep 33 = .ok (.iconst 0, 1) := by decide +kernel
theorem d_M_binaryStep_34 : decode b_M_binaryStep 34 = .ok (.iconst 1, 1) := by decide +kernel
theorem d_M_binaryStep_35 : decode b_M_binaryStep 35 = .ok (.invokevirtual 115, 3) := by decide +kernel
theorem d_M_binaryStep_38 : decode b_M_binaryStep 38 = .ok (.goto 14, 3) := by decide +kernel
theorem d_M_binaryStep_41 : decode b_M_binaryStep 41 = .ok (.aload_n 0, 1) := by decide +kernel
theorem d_M_binaryStep_42 : decode b_M_binaryStep 42 = .ok (.iload_n 1, 1) := by decide +kernel
theorem d_M_binaryStep_43 : decode b_M_binaryStep 43 = .ok (.iload 4, 2) := by decide +kernel
theorem d_M_binaryStep_45 : decode b_M_binaryStep 45 = .ok (.iconst 1, 1) := by decide +kernel
theorem d_M_binaryStep_46 : decode b_M_binaryStep 46 = .ok (.isub, 1) := by decide +kernel
theorem d_M_binaryStep_47 : decode b_M_binaryStep 47 = .ok (.iload 4, 2) := by decide +kernel
theorem d_M_binaryStep_49 : decode b_M_binaryStep 49 = .ok (.invokevirtual 89, 3) := by decide +kernel
theorem d_M_binaryStep_52 : decode b_M_binaryStep 52 = .ok (.ireturn, 1) := by decide +kernel
theorem d_M_binaryStep_53 : decode b_M_binaryStep 53 = .ok (.iload_n 2, 1) := by decide +kernel
theorem d_M_binaryStep_54 : decode b_M_binaryStep 54 = .ok (.iconst 1, 1) := by decide +kernel
theorem d_M_binaryStep_55 : decode b_M_binaryStep 55 = .ok (.if_icmp .ne 5, 3) := by decide +kernel
theorem d_M_binaryStep_58 : decode b_M_binaryStep 58 = .ok (.iconst 1, 1) := by decide +kernel
theorem d_M_binaryStep_59 : decode b_M_binaryStep 59 = .ok (.ireturn, 1) := by decide +kernel
theorem d_M_binaryStep_60 : decode b_M_binaryStep 60 = .ok (.iload 4, 2) := by decide +kernel
theorem d_M_binaryStep_62 : decode b_M_binaryStep 62 = .ok (.iconst 1, 1) := by decide +kernel
theorem d_M_binaryStep_63 : decode b_M_binaryStep 63 = .ok (.if_icmp .ne 13, 3) := by decide +kernel
theorem d_M_binaryStep_66 : decode b_M_binaryStep 66 = .ok (.aload_n 0, 1) := by decide +kernel
theorem d_M_binaryStep_67 : decode b_M_binaryStep 67 = .ok (.iload_n 1, 1) := by decide +kernel
theorem d_M_binaryStep_68 : decode b_M_binaryStep 68 = .ok (.iconst 1, 1) := by decide +kernel
theorem d_M_binaryStep_69 : decode b_M_binaryStep 69 = .ok (.iconst 2, 1) := by decide +kernel
theorem d_M_binaryStep_70 : decode b_M_binaryStep 70 = .ok (.invokevirtual 115, 3) := by decide +kernel
theorem d_M_binaryStep_73 : decode b_M_binaryStep 73 = .ok (.goto 4, 3) := by decide +kernel
theorem d_M_binaryStep_76 : decode b_M_binaryStep 76 = .ok (.iconst 0, 1) := by decide +kernel
theorem d_M_binaryStep_77 : decode b_M_binaryStep 77 = .ok (.ireturn, 1) := by decide +kernel
theorem d_M_binaryStep_78 : decode b_M_binaryStep 78 = .ok (.iload_n 3, 1) := by decide +kernel
theorem d_M_binaryStep_79 : decode b_M_binaryStep 79 = .ok (.bipush 8, 2) := by decide +kernel
theorem d_M_binaryStep_81 : decode b_M_binaryStep 81 = .ok (.if_icmp .ne 10, 3) := by decide +kernel
theorem d_M_binaryStep_84 : decode b_M_binaryStep 84 = .ok (.aload_n 0, 1) := by decide +kernel
theorem d_M_binaryStep_85 : decode b_M_binaryStep 85 = .ok (.iload_n 1, 1) := by decide +kernel
theorem d_M_binaryStep_86 : decode b_M_binaryStep 86 = .ok (.iload_n 2, 1) := by decide +kernel
theorem d_M_binaryStep_87 : decode b_M_binaryStep 87 = .ok (.invokevirtual 118, 3) := by decide +kernel
theorem d_M_binaryStep_90 : decode b_M_binaryStep 90 = .ok (.ireturn, 1) := by decide +kernel
theorem d_M_binaryStep_91 : decode b_M_binaryStep 91 = .ok (.iload_n 3, 1) := by decide +kernel
theorem d_M_binaryStep_92 : decode b_M_binaryStep 92 = .ok (.bipush 9, 2) := by decide +kernel
theorem d_M_binaryStep_94 : decode b_M_binaryStep 94 = .ok (.if_icmp .ne 46, 3) := by decide +kernel
theorem d_M_binaryStep_97 : decode b_M_binaryStep 97 = .ok (.iload_n 2, 1) := by decide +kernel
theorem d_M_binaryStep_98 : decode b_M_binaryStep 98 = .ok (.ifCond .ne 11, 3) := by decide +kernel
theorem d_M_binaryStep_101 : decode b_M_binaryStep 101 = .ok (.aload_n 0, 1) := by decide +kernel
theorem d_M_binaryStep_102 : decode b_M_binaryStep 102 = .ok (.iload_n 1, 1) := by decide +kernel
theorem d_M_binaryStep_103 : decode b_M_binaryStep 103 = .ok (.iconst 0, 1) := by decide +kernel
theorem d_M_binaryStep_104 : decode b_M_binaryStep 104 = .ok (.iconst 1, 1) := by decide +kernel
theorem d_M_binaryStep_105 : decode b_M_binaryStep 105 = .ok (.invokevirtual 115, 3) := by decide +kernel
theorem d_M_binaryStep_108 : decode b_M_binaryStep 108 = .ok (.ireturn, 1) := by decide +kernel
theorem d_M_binaryStep_109 : decode b_M_binaryStep 109 = .ok (.iload 4, 2) := by decide +kernel
theorem d_M_binaryStep_111 : decode b_M_binaryStep 111 = .ok (.iconst 2, 1) := by decide +kernel
theorem d_M_binaryStep_112 : decode b_M_binaryStep 112 = .ok (.if_icmp .ne 11, 3) := by decide +kernel
theorem d_M_binaryStep_115 : decode b_M_binaryStep 115 = .ok (.aload_n 0, 1) := by decide +kernel
theorem d_M_binaryStep_116 : decode b_M_binaryStep 116 = .ok (.iload_n 1, 1) := by decide +kernel
theorem d_M_binaryStep_117 : decode b_M_binaryStep 117 = .ok (.iconst 0, 1) := by decide +kernel
theorem d_M_binaryStep_118 : decode b_M_binaryStep 118 = .ok (.iconst 1, 1) := by decide +kernel
theorem d_M_binaryStep_119 : decode b_M_binaryStep 119 = .ok (.invokevirtual 89, 3) := by decide +kernel
theorem d_M_binaryStep_122 : decode b_M_binaryStep 122 = .ok (.ireturn, 1) := by decide +kernel
theorem d_M_binaryStep_123 : decode b_M_binaryStep 123 = .ok (.iload_n 2, 1) := by decide +kernel
theorem d_M_binaryStep_124 : decode b_M_binaryStep 124 = .ok (.iconst 1, 1) := by decide +kernel
theorem d_M_binaryStep_125 : decode b_M_binaryStep 125 = .ok (.if_icmp .ne 13, 3) := by decide +kernel
theorem d_M_binaryStep_128 : decode b_M_binaryStep 128 = .ok (.aload_n 0, 1) := by decide +kernel
theorem d_M_binaryStep_129 : decode b_M_binaryStep 129 = .ok (.iload_n 1, 1) := by decide +kernel
theorem d_M_binaryStep_130 : decode b_M_binaryStep 130 = .ok (.iconst 1, 1) := by decide +kernel
theorem d_M_binaryStep_131 : decode b_M_binaryStep 131 = .ok (.iconst 2, 1) := by decide +kernel
theorem d_M_binaryStep_132 : decode b_M_binaryStep 132 = .ok (.invokevirtual 115, 3) := by decide +kernel
theorem d_M_binaryStep_135 : decode b_M_binaryStep 135 = .ok (.goto 4, 3) := by decide +kernel
theorem d_M_binaryStep_138 : decode b_M_binaryStep 138 = .ok (.iconst 0, 1) := by decide +kernel
theorem d_M_binaryStep_139 : decode b_M_binaryStep 139 = .ok (.ireturn, 1) := by decide +kernel
theorem d_M_binaryStep_140 : decode b_M_binaryStep 140 = .ok (.iload_n 3, 1) := by decide +kernel
theorem d_M_binaryStep_141 : decode b_M_binaryStep 141 = .ok (.bipush 10, 2) := by decide +kernel
