/-! decoded rows -/
theorem d_M_binaryStep_143 : decode b_M_binaryStep 143 = .ok (.if_icmp .ne 38, 3) := by decide +kernel
theorem d_M_binaryStep_146 : decode b_M_binaryStep 146 = .ok (.iload_n 2, 1) := by decide +kernel
theorem d_M_binaryStep_147 : decode b_M_binaryStep 147 = .ok (.ifCond .eq 9, 3) := by decide +kernel
theorem d_M_binaryStep_150 : decode b_M_binaryStep 150 = .ok (.iload 4, 2) := by decide +kernel
theorem d_M_binaryStep_152 : decode b_M_binaryStep 152 = .ok (.iconst 2, 1) := by decide +kernel
theorem d_M_binaryStep_153 : decode b_M_binaryStep 153 = .ok (.if_icmp .ne 11, 3) := by decide +kernel
theorem d_M_binaryStep_156 : decode b_M_binaryStep 156 = .ok (.aload_n 0, 1) := by decide +kernel
theorem d_M_binaryStep_157 : decode b_M_binaryStep 157 = .ok (.iload_n 1, 1) := by decide +kernel
theorem d_M_binaryStep_158 : decode b_M_binaryStep 158 = .ok (.iconst 0, 1) := by decide +kernel
theorem d_M_binaryStep_159 : decode b_M_binaryStep 159 = .ok (.iconst 1, 1) := by decide +kernel
theorem d_M_binaryStep_160 : decode b_M_binaryStep 160 = .ok (.invokevirtual 115, 3) := by decide +kernel
theorem d_M_binaryStep_163 : decode b_M_binaryStep 163 = .ok (.ireturn, 1) := by decide +kernel
theorem d_M_binaryStep_164 : decode b_M_binaryStep 164 = .ok (.iload_n 2, 1) := by decide +kernel
theorem d_M_binaryStep_165 : decode b_M_binaryStep 165 = .ok (.iconst 1, 1) := by decide +kernel
theorem d_M_binaryStep_166 : decode b_M_binaryStep 166 = .ok (.if_icmp .ne 13, 3) := by decide +kernel
theorem d_M_binaryStep_169 : decode b_M_binaryStep 169 = .ok (.aload_n 0, 1) := by decide +kernel
theorem d_M_binaryStep_170 : decode b_M_binaryStep 170 = .ok (.iload_n 1, 1) := by decide +kernel
theorem d_M_binaryStep_171 : decode b_M_binaryStep 171 = .ok (.iconst 1, 1) := by decide +kernel
theorem d_M_binaryStep_172 : decode b_M_binaryStep 172 = .ok (.iconst 2, 1) := by decide +kernel
theorem d_M_binaryStep_173 : decode b_M_binaryStep 173 = .ok (.invokevirtual 115, 3) := by decide +kernel
theorem d_M_binaryStep_176 : decode b_M_binaryStep 176 = .ok (.goto 4, 3) := by decide +kernel
theorem d_M_binaryStep_179 : decode b_M_binaryStep 179 = .ok (.iconst 0, 1) := by decide +kernel
theorem d_M_binaryStep_180 : decode b_M_binaryStep 180 = .ok (.ireturn, 1) := by decide +kernel
theorem d_M_binaryStep_181 : decode b_M_binaryStep 181 = .ok (.iload_n 2, 1) := by decide +kernel
theorem d_M_binaryStep_182 : decode b_M_binaryStep 182 = .ok (.ifCond .ne 26, 3) := by decide +kernel
theorem d_M_binaryStep_185 : decode b_M_binaryStep 185 = .ok (.iload 4, 2) := by decide +kernel
theorem d_M_binaryStep_187 : decode b_M_binaryStep 187 = .ok (.ifCond .ne 13, 3) := by decide +kernel
theorem d_M_binaryStep_190 : decode b_M_binaryStep 190 = .ok (.aload_n 0, 1) := by decide +kernel
theorem d_M_binaryStep_191 : decode b_M_binaryStep 191 = .ok (.iload_n 1, 1) := by decide +kernel
theorem d_M_binaryStep_192 : decode b_M_binaryStep 192 = .ok (.iconst 0, 1) := by decide +kernel
theorem d_M_binaryStep_193 : decode b_M_binaryStep 193 = .ok (.iconst 1, 1) := by decide +kernel
theorem d_M_binaryStep_194 : decode b_M_binaryStep 194 = .ok (.invokevirtual 115, 3) := by decide +kernel
theorem d_M_binaryStep_197 : decode b_M_binaryStep 197 = .ok (.goto 10, 3) := by decide +kernel
theorem d_M_binaryStep_200 : decode b_M_binaryStep 200 = .ok (.aload_n 0, 1) := by decide +kernel
theorem d_M_binaryStep_201 : decode b_M_binaryStep 201 = .ok (.iload_n 1, 1) := by decide +kernel
theorem d_M_binaryStep_202 : decode b_M_binaryStep 202 = .ok (.iconst 1, 1) := by decide +kernel
theorem d_M_binaryStep_203 : decode b_M_binaryStep 203 = .ok (.iconst 2, 1) := by decide +kernel
theorem d_M_binaryStep_204 : decode b_M_binaryStep 204 = .ok (.invokevirtual 89, 3) := by decide +kernel
theorem d_M_binaryStep_207 : decode b_M_binaryStep 207 = .ok (.ireturn, 1) := by decide +kernel
theorem d_M_binaryStep_208 : decode b_M_binaryStep 208 = .ok (.iload 4, 2) := by decide +kernel
theorem d_M_binaryStep_210 : decode b_M_binaryStep 210 = .ok (.iconst 1, 1) := by decide +kernel
theorem d_M_binaryStep_211 : decode b_M_binaryStep 211 = .ok (.if_icmp .ne 11, 3) := by decide +kernel
theorem d_M_binaryStep_214 : decode b_M_binaryStep 214 = .ok (.aload_n 0, 1) := by decide +kernel
theorem d_M_binaryStep_215 : decode b_M_binaryStep 215 = .ok (.iload_n 1, 1) := by decide +kernel
theorem d_M_binaryStep_216 : decode b_M_binaryStep 216 = .ok (.iconst 1, 1) := by decide +kernel
theorem d_M_binaryStep_217 : decode b_M_binaryStep 217 = .ok (.iconst 2, 1) := by decide +kernel
theorem d_M_binaryStep_218 : decode b_M_binaryStep 218 = .ok (.invokevirtual 115, 3) := by decide +kernel
theorem d_M_binaryStep_221 : decode b_M_binaryStep 221 = .ok (.ireturn, 1) := by decide +kernel
theorem d_M_binaryStep_222 : decode b_M_binaryStep 222 = .ok (.iload_n 2, 1) := by decide +kernel
theorem d_M_binaryStep_223 : decode b_M_binaryStep 223 = .ok (.iconst 1, 1) := by decide +kernel
theorem d_M_binaryStep_224 : decode b_M_binaryStep 224 = .ok (.if_icmp .ne 7, 3) := by decide +kernel
theorem d_M_binaryStep_227 : decode b_M_binaryStep 227 = .ok (.iconst 1, 1) := by decide +kernel
theorem d_M_binaryStep_228 : decode b_M_binaryStep 228 = .ok (.goto 4, 3) := by decide +kernel
theorem d_M_binaryStep_231 : decode b_M_binaryStep 231 = .ok (.iconst 0, 1) := by decide +kernel
theorem d_M_binaryStep_232 : decode b_M_binaryStep 232 = .ok (.ireturn, 1) := by decide +kernel
theorem d_M_limit_0 : decode b_M_limit 0 = .ok (.iload_n 2, 1) := by decide +kernel
theorem d_M_limit_1 : decode b_M_limit 1 = .ok (.ifCond .ne 20, 3) := by decide +kernel
theorem d_M_limit_4 : decode b_M_limit 4 = .ok (.aload_n 0, 1) := by decide +kernel
theorem d_M_limit_5 : decode b_M_limit 5 = .ok (.getfield 26, 3) := by decide +kernel
theorem d_M_limit_8 : decode b_M_limit 8 = .ok (.iload_n 1, 1) := by decide +kernel
theorem d_M_limit_9 : decode b_M_limit 9 = .ok (.iaload, 1) := by decide +kernel
theorem d_M_limit_10 : decode b_M_limit 10 = .ok (.ifCond .ne 11, 3) := by decide +kernel
theorem d_M_limit_13 : decode b_M_limit 13 = .ok (.aload_n 0, 1) := by decide +kernel
theorem d_M_limit_14 : decode b_M_limit 14 = .ok (.iload_n 1, 1) := by decide +kernel
theorem d_M_limit_15 : decode b_M_limit 15 = .ok (.iconst 1, 1) := by decide +kernel
theorem d_M_limit_16 : decode b_M_limit 16 = .ok (.iconst 1, 1) := by decide +kernel
theorem d_M_limit_17 : decode b_M_limit 17 = .ok (.invokevirtual 115, 3) := by decide +kernel
theorem d_M_limit_20 : decode b_M_limit 20 = .ok (.ireturn, 1) := by decide +kernel
theorem d_M_limit_21 : decode b_M_limit 21 = .ok (.iload_n 2, 1) := by decide +kernel
theorem d_M_limit_22 : decode b_M_limit 22 = .ok (.ifCond .ne 34, 3) := by decide +kernel
theorem d_M_limit_25 : decode b_M_limit 25 = .ok (.aload_n 0, 1) := by decide +kernel
theorem d_M_limit_26 : decode b_M_limit 26 = .ok (.getfield 29, 3) := by decide +kernel
theorem d_M_limit_29 : decode b_M_limit 29 = .ok (.iconst 3, 1) := by decide +kernel
theorem d_M_limit_30 : decode b_M_limit 30 = .ok (.iload_n 1, 1) := by decide +kernel
theorem d_M_limit_31 : decode b_M_limit 31 = .ok (.imul, 1) := by decide +kernel
theorem d_M_limit_32 : decode b_M_limit 32 = .ok (.laload, 1) := by decide +kernel
theorem d_M_limit_33 : decode b_M_limit 33 = .ok (.lconst 0, 1) := by decide +kernel
theorem d_M_limit_34 : decode b_M_limit 34 = .ok (.lcmp, 1) := by decide +kernel
theorem d_M_limit_35 : decode b_M_limit 35 = .ok (.ifCond .le 13, 3) := by decide +kernel
theorem d_M_limit_38 : decode b_M_limit 38 = .ok (.aload_n 0, 1) := by decide +kernel
theorem d_M_limit_39 : decode b_M_limit 39 = .ok (.iload_n 1, 1) := by decide +kernel
theorem d_M_limit_40 : decode b_M_limit 40 = .ok (.iconst 0, 1) := by decide +kernel
theorem d_M_limit_41 : decode b_M_limit 41 = .ok (.iconst 2, 1) := by decide +kernel
theorem d_M_limit_42 : decode b_M_limit 42 = .ok (.invokevirtual 89, 3) := by decide +kernel
theorem d_M_limit_45 : decode b_M_limit 45 = .ok (.goto 10, 3) := by decide +kernel
theorem d_M_limit_48 : decode b_M_limit 48 = .ok (.aload_n 0, 1) := by decide +kernel
theorem d_M_limit_49 : decode b_M_limit 49 = .ok (.iload_n 1, 1) := by decide +kernel
theorem d_M_limit_50 : decode b_M_limit 50 = .ok (.iconst 1, 1) := by decide +kernel
theorem d_M_limit_51 : decode b_M_limit 51 = .ok (.iconst 1, 1) := by decide +kernel
theorem d_M_limit_52 : decode b_M_limit 52 = .ok (.invokevirtual 89, 3) := by decide +kernel
theorem d_M_limit_55 : decode b_M_limit 55 = .ok (.ireturn, 1) := by decide +kernel
theorem d_M_limit_56 : decode b_M_limit 56 = .ok (.aload_n 0, 1) := by decide +kernel
theorem d_M_limit_57 : decode b_M_limit 57 = .ok (.getfield 26, 3) := by decide +kernel
theorem d_M_limit_60 : decode b_M_limit 60 = .ok (.iload_n 1, 1) := by decide +kernel
theorem d_M_limit_61 : decode b_M_limit 61 = .ok (.iaload, 1) := by decide +kernel
theorem d_M_limit_62 : decode b_M_limit 62 = .ok (.iconst 2, 1) := by decide +kernel
theorem d_M_limit_63 : decode b_M_limit 63 = .ok (.if_icmp .ne 30, 3) := by decide +kernel
theorem d_M_limit_66 : decode b_M_limit 66 = .ok (.iload_n 2, 1) := by decide +kernel
theorem d_M_limit_67 : decode b_M_limit 67 = .ok (.iconst 2, 1) := by decide +kernel
theorem d_M_limit_68 : decode b_M_limit 68 = .ok (.if_icmp .ne 11, 3) := by decide +kernel
theorem d_M_limit_71 : decode b_M_limit 71 = .ok (.aload_n 0, 1) := by decide +kernel
theorem d_M_limit_72 : decode b_M_limit 72 = .ok (.iload_n 1, 1) := by decide +kernel
theorem d_M_limit_73 : decode b_M_limit 73 = .ok (.iconst 1, 1) := by decide +kernel
theorem d_M_limit_74 : decode b_M_limit 74 = .ok (.iconst 1, 1) := by decide +kernel
theorem d_M_limit_75 : decode b_M_limit 75 = .ok (.invokevirtual 89, 3) := by decide +kernel
theorem d_M_limit_78 : decode b_M_limit 78 = .ok (.ireturn, 1) := by decide +kernel
theorem d_M_limit_79 : decode b_M_limit 79 = .ok (.aload_n 0, 1) := by decide +kernel
theorem d_M_limit_80 : decode b_M_limit 80 = .ok (.getfield 29, 3) := by decide +kernel
theorem d_M_limit_83 : decode b_M_limit 83 = .ok (.iconst 3, 1) := by decide +kernel
theorem d_M_limit_84 : decode b_M_limit 84 = .ok (.iload_n 1, 1) := by decide +kernel
theorem d_M_limit_85 : decode b_M_limit 85 = .ok (.imul, 1) := by decide +kernel
theorem d_M_limit_86 : decode b_M_limit 86 = .ok (.dup2, 1) := by decide +kernel
theorem d_M_limit_87 : decode b_M_limit 87 = .ok (.laload, 1) := by decide +kernel
theorem d_M_limit_88 : decode b_M_limit 88 = .ok (.lconst 1, 1) := by decide +kernel
theorem d_M_limit_89 : decode b_M_limit 89 = .ok (.lsub, 1) := by decide +kernel
theorem d_M_limit_90 : decode b_M_limit 90 = .ok (.lastore, 1) := by decide +kernel
theorem d_M_limit_91 : decode b_M_limit 91 = .ok (.iconst 1, 1) := by decide +kernel
theorem d_M_limit_92 : decode b_M_limit 92 = .ok (.ireturn, 1) := by decide +kernel
theorem d_M_limit_93 : decode b_M_limit 93 = .ok (.iload_n 2, 1) := by decide +kernel
theorem d_M_limit_94 : decode b_M_limit 94 = .ok (.iconst 2, 1) := by decide +kernel
theorem d_M_limit_95 : decode b_M_limit 95 = .ok (.if_icmp .ne 5, 3) := by decide +kernel
theorem d_M_limit_98 : decode b_M_limit 98 = .ok (.iconst 0, 1) := by decide +kernel
theorem d_M_limit_99 : decode b_M_limit 99 = .ok (.ireturn, 1) := by decide +kernel
theorem d_M_limit_100 : decode b_M_limit 100 = .ok (.aload_n 0, 1) := by decide +kernel
theorem d_M_limit_101 : decode b_M_limit 101 = .ok (.getfield 29, 3) := by decide +kernel
theorem d_M_limit_104 : decode b_M_limit 104 = .ok (.iconst 3, 1) := by decide +kernel
theorem d_M_limit_105 : decode b_M_limit 105 = .ok (.iload_n 1, 1) := by decide +kernel
theorem d_M_limit_106 : decode b_M_limit 106 = .ok (.imul, 1) := by decide +kernel
theorem d_M_limit_107 : decode b_M_limit 107 = .ok (.aload_n 0, 1) := by decide +kernel
theorem d_M_limit_108 : decode b_M_limit 108 = .ok (.getfield 76, 3) := by decide +kernel
theorem d_M_limit_111 : decode b_M_limit 111 = .ok (.i2l, 1) := by decide +kernel
theorem d_M_limit_112 : decode b_M_limit 112 = .ok (.lastore, 1) := by decide +kernel
theorem d_M_limit_113 : decode b_M_limit 113 = .ok (.aload_n 0, 1) := by decide +kernel
theorem d_M_limit_114 : decode b_M_limit 114 = .ok (.getfield 76, 3) := by decide +kernel
theorem d_M_limit_117 : decode b_M_limit 117 = .ok (.ifCond .le 13, 3) := by decide +kernel
theorem d_M_limit_120 : decode b_M_limit 120 = .ok (.aload_n 0, 1) := by decide +kernel
theorem d_M_limit_121 : decode b_M_limit 121 = .ok (.iload_n 1, 1) := by decide +kernel
theorem d_M_limit_122 : decode b_M_limit 122 = .ok (.iconst 0, 1) := by decide +kernel
theorem d_M_limit_123 : decode b_M_limit 123 = .ok (.iconst 2, 1) := by decide +kernel
theorem d_M_limit_124 : decode b_M_limit 124 = .ok (.invokevirtual 115, 3) := by decide +kernel
theorem d_M_limit_127 : decode b_M_limit 127 = .ok (.goto 10, 3) := by decide +kernel
theorem d_M_limit_130 : decode b_M_limit 130 = .ok (.aload_n 0, 1) := by decide +kernel
theorem d_M_limit_131 : decode b_M_limit 131 = .ok (.iload_n 1, 1) := by decide +kernel
theorem d_M_limit_132 : decode b_M_limit 132 = .ok (.iconst 1, 1) := by decide +kernel
theorem d_M_limit_133 : decode b_M_limit 133 = .ok (.iconst 1, 1) := by decide +kernel
theorem d_M_limit_134 : decode b_M_limit 134 = .ok (.invokevirtual 89, 3) := by decide +kernel
theorem d_M_limit_137 : decode b_M_limit 137 = .ok (.ireturn, 1) := by decide +kernel
theorem d_M_toStep_0 : decode b_M_toStep 0 = .ok (.aload_n 0, 1) := by decide +kernel
theorem d_M_toStep_1 : decode b_M_toStep 1 = .ok (.getfield 26, 3) := by decide +kernel
theorem d_M_toStep_4 : decode b_M_toStep 4 = .ok (.iload_n 1, 1) := by decide +kernel
theorem d_M_toStep_5 : decode b_M_toStep 5 = .ok (.iaload, 1) := by decide +kernel
theorem d_M_toStep_6 : decode b_M_toStep 6 = .ok (.istore_n 3, 1) := by decide +kernel
theorem d_M_toStep_7 : decode b_M_toStep 7 = .ok (.iload_n 2, 1) := by decide +kernel
theorem d_M_toStep_8 : decode b_M_toStep 8 = .ok (.ifCond .ne 23, 3) := by decide +kernel
theorem d_M_toStep_11 : decode b_M_toStep 11 = .ok (.iload_n 3, 1) := by decide +kernel
theorem d_M_toStep_12 : decode b_M_toStep 12 = .ok (.ifCond .ne 13, 3) := by decide +kernel
theorem d_M_toStep_15 : decode b_M_toStep 15 = .ok (.aload_n 0, 1) := by decide +kernel
theorem d_M_toStep_16 : decode b_M_toStep 16 = .ok (.iload_n 1, 1) := by decide +kernel
theorem d_M_toStep_17 : decode b_M_toStep 17 = .ok (.iconst 0, 1) := by decide +kernel
theorem d_M_toStep_18 : decode b_M_toStep 18 = .ok (.iconst 1, 1) := by decide +kernel
theorem d_M_toStep_19 : decode b_M_toStep 19 = .ok (.invokevirtual 115, 3) := by decide +kernel
theorem d_M_toStep_22 : decode b_M_toStep 22 = .ok (.goto 8, 3) := by decide +kernel
theorem d_M_toStep_25 : decode b_M_toStep 25 = .ok (.aload_n 0, 1) := by decide +kernel
theorem d_M_toStep_26 : decode b_M_toStep 26 = .ok (.iload_n 1, 1) := by decide +kernel
theorem d_M_toStep_27 : decode b_M_toStep 27 = .ok (.invokevirtual 121, 3) := by decide +kernel
theorem d_M_toStep_30 : decode b_M_toStep 30 = .ok (.ireturn, 1) := by decide +kernel
theorem d_M_toStep_31 : decode b_M_toStep 31 = .ok (.iload_n 2, 1) := by decide +kernel
theorem d_M_toStep_32 : decode b_M_toStep 32 = .ok (.iconst 2, 1) := by decide +kernel
theorem d_M_toStep_33 : decode b_M_toStep 33 = .ok (.if_icmp .ne 24, 3) := by decide +kernel
theorem d_M_toStep_36 : decode b_M_toStep 36 = .ok (.iload_n 3, 1) := by decide +kernel
theorem d_M_toStep_37 : decode b_M_toStep 37 = .ok (.iconst 1, 1) := by decide +kernel
theorem d_M_toStep_38 : decode b_M_toStep 38 = .ok (.if_icmp .ne 7, 3) := by decide +kernel
theorem d_M_toStep_41 : decode b_M_toStep 41 = .ok (.iconst 0, 1) := by decide +kernel
theorem d_M_toStep_42 : decode b_M_toStep 42 = .ok (.goto 14, 3) := by decide +kernel
theorem d_M_toStep_45 : decode b_M_toStep 45 = .ok (.aload_n 0, 1) := by decide +kernel
theorem d_M_toStep_46 : decode b_M_toStep 46 = .ok (.iload_n 1, 1) := by decide +kernel
theorem d_M_toStep_47 : decode b_M_toStep 47 = .ok (.iload_n 3, 1) := by decide +kernel
theorem d_M_toStep_48 : decode b_M_toStep 48 = .ok (.iconst 2, 1) := by decide +kernel
theorem d_M_toStep_49 : decode b_M_toStep 49 = .ok (.isub, 1) := by decide +kernel
theorem d_M_toStep_50 : decode b_M_toStep 50 = .ok (.iload_n 3, 1) := by decide +kernel
theorem d_M_toStep_51 : decode b_M_toStep 51 = .ok (.iconst 1, 1) := by decide +kernel
theorem d_M_toStep_52 : decode b_M_toStep 52 = .ok (.isub, 1) := by decide +kernel
theorem d_M_toStep_53 : decode b_M_toStep 53 = .ok (.invokevirtual 89, 3) := by decide +kernel
theorem d_M_toStep_56 : decode b_M_toStep 56 = .ok (.ireturn, 1) := by decide +kernel
theorem d_M_toStep_57 : decode b_M_toStep 57 = .ok (.iload_n 3, 1) := by decide +kernel
theorem d_M_toStep_58 : decode b_M_toStep 58 = .ok (.iconst 1, 1) := by decide +kernel
theorem d_M_toStep_59 : decode b_M_toStep 59 = .ok (.if_icmp .ne 21, 3) := by decide +kernel
theorem d_M_toStep_62 : decode b_M_toStep 62 = .ok (.aload_n 0, 1) := by decide +kernel
theorem d_M_toStep_63 : decode b_M_toStep 63 = .ok (.getfield 13, 3) := by decide +kernel
theorem d_M_toStep_66 : decode b_M_toStep 66 = .ok (.iload_n 1, 1) := by decide +kernel
theorem d_M_toStep_67 : decode b_M_toStep 67 = .ok (.aload_n 0, 1) := by decide +kernel
theorem d_M_toStep_68 : decode b_M_toStep 68 = .ok (.getfield 76, 3) := by decide +kernel
theorem d_M_toStep_71 : decode b_M_toStep 71 = .ok (.iastore, 1) := by decide +kernel
theorem d_M_toStep_72 : decode b_M_toStep 72 = .ok (.aload_n 0, 1) := by decide +kernel
theorem d_M_toStep_73 : decode b_M_toStep 73 = .ok (.iload_n 1, 1) := by decide +kernel
theorem d_M_toStep_74 : decode b_M_toStep 74 = .ok (.iconst 1, 1) := by decide +kernel
theorem d_M_toStep_75 : decode b_M_toStep 75 = .ok (.iconst 2, 1) := by decide +kernel
theorem d_M_toStep_76 : decode b_M_toStep 76 = .ok (.invokevirtual 115, 3) := by decide +kernel
theorem d_M_toStep_79 : decode b_M_toStep 79 = .ok (.ireturn, 1) := by decide +kernel
theorem d_M_toStep_80 : decode b_M_toStep 80 = .ok (.aload_n 0, 1) := by decide +kernel
theorem d_M_toStep_81 : decode b_M_toStep 81 = .ok (.getfield 29, 3) := by decide +kernel
theorem d_M_toStep_84 : decode b_M_toStep 84 = .ok (.iconst 3, 1) := by decide +kernel
theorem d_M_toStep_85 : decode b_M_toStep 85 = .ok (.iload_n 1, 1) := by decide +kernel
theorem d_M_toStep_86 : decode b_M_toStep 86 = .ok (.imul, 1) := by decide +kernel
theorem d_M_toStep_87 : decode b_M_toStep 87 = .ok (.iload_n 3, 1) := by decide +kernel
theorem d_M_toStep_88 : decode b_M_toStep 88 = .ok (.iadd, 1) := by decide +kernel
theorem d_M_toStep_89 : decode b_M_toStep 89 = .ok (.iconst 1, 1) := by decide +kernel
theorem d_M_toStep_90 : decode b_M_toStep 90 = .ok (.isub, 1) := by decide +kernel
theorem d_M_toStep_91 : decode b_M_toStep 91 = .ok (.aload_n 0, 1) := by decide +kernel
theorem d_M_toStep_92 : decode b_M_toStep 92 = .ok (.getfield 76, 3) := by decide +kernel
theorem d_M_toStep_95 : decode b_M_toStep 95 = .ok (.i2l, 1) := by decide +kernel
theorem d_M_toStep_96 : decode b_M_toStep 96 = .ok (.lastore, 1) := by decide +kernel
theorem d_M_toStep_97 : decode b_M_toStep 97 = .ok (.iload_n 3, 1) := by decide +kernel
theorem d_M_toStep_98 : decode b_M_toStep 98 = .ok (.iconst 2, 1) := by decide +kernel
theorem d_M_toStep_99 : decode b_M_toStep 99 = .ok (.if_icmp .ne 11, 3) := by decide +kernel
theorem d_M_toStep_102 : decode b_M_toStep 102 = .ok (.aload_n 0, 1) := by decide +kernel
theorem d_M_toStep_103 : decode b_M_toStep 103 = .ok (.iload_n 1, 1) := by decide +kernel
theorem d_M_toStep_104 : decode b_M_toStep 104 = .ok (.iconst 2, 1) := by decide +kernel
theorem d_M_toStep_105 : decode b_M_toStep 105 = .ok (.iconst 3, 1) := by decide +kernel
theorem d_M_toStep_106 : decode b_M_toStep 106 = .ok (.invokevirtual 115, 3) := by decide +kernel
theorem d_M_toStep_109 : decode b_M_toStep 109 = .ok (.ireturn, 1) := by decide +kernel
theorem d_M_toStep_110 : decode b_M_toStep 110 = .ok (.aload_n 0, 1) := by decide +kernel
theorem d_M_toStep_111 : decode b_M_toStep 111 = .ok (.getfield 76, 3) := by decide +kernel
theorem d_M_toStep_114 : decode b_M_toStep 114 = .ok (.ifCond .ne 11, 3) := by decide +kernel
theorem d_M_toStep_117 : decode b_M_toStep 117 = .ok (.aload_n 0, 1) := by decide +kernel
theorem d_M_toStep_118 : decode b_M_toStep 118 = .ok (.bipush (-3), 2) := by decide +kernel
theorem d_M_toStep_120 : decode b_M_toStep 120 = .ok (.putfield 79, 3) := by decide +kernel
theorem d_M_toStep_123 : decode b_M_toStep 123 = .ok (.iconst 0, 1) := by decide +kernel
theorem d_M_toStep_124 : decode b_M_toStep 124 = .ok (.ireturn, 1) := by decide +kernel
theorem d_M_toStep_125 : decode b_M_toStep 125 = .ok (.aload_n 0, 1) := by decide +kernel
theorem d_M_toStep_126 : decode b_M_toStep 126 = .ok (.getfield 29, 3) := by decide +kernel
theorem d_M_toStep_129 : decode b_M_toStep 129 = .ok (.iconst 3, 1) := by decide +kernel
theorem d_M_toStep_130 : decode b_M_toStep 130 = .ok (.iload_n 1, 1) := by decide +kernel
theorem d_M_toStep_131 : decode b_M_toStep 131 = .ok (.imul, 1) := by decide +kernel
theorem d_M_toStep_132 : decode b_M_toStep 132 = .ok (.aload_n 0, 1) := by decide +kernel
theorem d_M_toStep_133 : decode b_M_toStep 133 = .ok (.getfield 13, 3) := by decide +kernel
theorem d_M_toStep_136 : decode b_M_toStep 136 = .ok (.iload_n 1, 1) := by decide +kernel
theorem d_M_toStep_137 : decode b_M_toStep 137 = .ok (.iaload, 1) := by decide +kernel
theorem d_M_toStep_138 : decode b_M_toStep 138 = .ok (.i2l, 1) := by decide +kernel
theorem d_M_toStep_139 : decode b_M_toStep 139 = .ok (.lastore, 1) := by decide +kernel
theorem d_M_toStep_140 : decode b_M_toStep 140 = .ok (.aload_n 0, 1) := by decide +kernel
theorem d_M_toStep_141 : decode b_M_toStep 141 = .ok (.iload_n 1, 1) := by decide +kernel
theorem d_M_toStep_142 : decode b_M_toStep 142 = .ok (.invokevirtual 121, 3) := by decide +kernel
theorem d_M_toStep_145 : decode b_M_toStep 145 = .ok (.ireturn, 1) := by decide +kernel
theorem d_M_onward_0 : decode b_M_onward 0 = .ok (.aload_n 0, 1) := by decide +kernel
theorem d_M_onward_1 : decode b_M_onward 1 = .ok (.getfield 29, 3) := by decide +kernel
theorem d_M_onward_4 : decode b_M_onward 4 = .ok (.iconst 3, 1) := by decide +kernel
theorem d_M_onward_5 : decode b_M_onward 5 = .ok (.iload_n 1, 1) := by decide +kernel
theorem d_M_onward_6 : decode b_M_onward 6 = .ok (.imul, 1) := by decide +kernel
theorem d_M_onward_7 : decode b_M_onward 7 = .ok (.laload, 1) := by decide +kernel
theorem d_M_onward_8 : decode b_M_onward 8 = .ok (.lstore_n 2, 1) := by decide +kernel
theorem d_M_onward_9 : decode b_M_onward 9 = .ok (.aload_n 0, 1) := by decide +kernel
theorem d_M_onward_10 : decode b_M_onward 10 = .ok (.getfield 29, 3) := by decide +kernel
theorem d_M_onward_13 : decode b_M_onward 13 = .ok (.iconst 3, 1) := by decide +kernel
theorem d_M_onward_14 : decode b_M_onward 14 = .ok (.iload_n 1, 1) := by decide +kernel
theorem d_M_onward_15 : decode b_M_onward 15 = .ok (.imul, 1) := by decide +kernel
theorem d_M_onward_16 : decode b_M_onward 16 = .ok (.iconst 2, 1) := by decide +kernel
theorem d_M_onward_17 : decode b_M_onward 17 = .ok (.iadd, 1) := by decide +kernel
theorem d_M_onward_18 : decode b_M_onward 18 = .ok (.laload, 1) := by decide +kernel
theorem d_M_onward_19 : decode b_M_onward 19 = .ok (.lstore 4, 2) := by decide +kernel
theorem d_M_onward_21 : decode b_M_onward 21 = .ok (.lload 4, 2) := by decide +kernel
theorem d_M_onward_23 : decode b_M_onward 23 = .ok (.lconst 0, 1) := by decide +kernel
theorem d_M_onward_24 : decode b_M_onward 24 = .ok (.lcmp, 1) := by decide +kernel
theorem d_M_onward_25 : decode b_M_onward 25 = .ok (.ifCond .le 21, 3) := by decide +kernel
theorem d_M_onward_28 : decode b_M_onward 28 = .ok (.lload_n 2, 1) := by decide +kernel
theorem d_M_onward_29 : decode b_M_onward 29 = .ok (.aload_n 0, 1) := by decide +kernel
theorem d_M_onward_30 : decode b_M_onward 30 = .ok (.getfield 29, 3) := by decide +kernel
theorem d_M_onward_33 : decode b_M_onward 33 = .ok (.iconst 3, 1) := by decide +kernel
theorem d_M_onward_34 : decode b_M_onward 34 = .ok (.iload_n 1, 1) := by decide +kernel
theorem d_M_onward_35 : decode b_M_onward 35 = .ok (.imul, 1) := by decide +kernel
theorem d_M_onward_36 : decode b_M_onward 36 = .ok (.iconst 1, 1) := by decide +kernel
theorem d_M_onward_37 : decode b_M_onward 37 = .ok (.iadd, 1) := by decide +kernel
theorem d_M_onward_38 : decode b_M_onward 38 = .ok (.laload, 1) := by decide +kernel
theorem d_M_onward_39 : decode b_M_onward 39 = .ok (.lcmp, 1) := by decide +kernel
theorem d_M_onward_40 : decode b_M_onward 40 = .ok (.ifCond .le 29, 3) := by decide +kernel
theorem d_M_onward_43 : decode b_M_onward 43 = .ok (.goto 18, 3) := by decide +kernel
theorem d_M_onward_46 : decode b_M_onward 46 = .ok (.lload_n 2, 1) := by decide +kernel
theorem d_M_onward_47 : decode b_M_onward 47 = .ok (.aload_n 0, 1) := by decide +kernel
theorem d_M_onward_48 : decode b_M_onward 48 = .ok (.getfield 29, 3) := by decide +kernel
theorem d_M_onward_51 : decode b_M_onward 51 = .ok (.iconst 3, 1) := by decide +kernel
theorem d_M_onward_52 : decode b_M_onward 52 = .ok (.iload_n 1, 1) := by decide +kernel
theorem d_M_onward_53 : decode b_M_onward 53 = .ok (.imul, 1) := by decide +kernel
theorem d_M_onward_54 : decode b_M_onward 54 = .ok (.iconst 1, 1) := by decide +kernel
theorem d_M_onward_55 : decode b_M_onward 55 = .ok (.iadd, 1) := by decide +kernel
theorem d_M_onward_56 : decode b_M_onward 56 = .ok (.laload, 1) := by decide +kernel
theorem d_M_onward_57 : decode b_M_onward 57 = .ok (.lcmp, 1) := by decide +kernel
theorem d_M_onward_58 : decode b_M_onward 58 = .ok (.ifCond .ge 11, 3) := by decide +kernel
theorem d_M_onward_61 : decode b_M_onward 61 = .ok (.aload_n 0, 1) := by decide +kernel
theorem d_M_onward_62 : decode b_M_onward 62 = .ok (.iload_n 1, 1) := by decide +kernel
theorem d_M_onward_63 : decode b_M_onward 63 = .ok (.iconst 2, 1) := by decide +kernel
theorem d_M_onward_64 : decode b_M_onward 64 = .ok (.iconst 3, 1) := by decide +kernel
theorem d_M_onward_65 : decode b_M_onward 65 = .ok (.invokevirtual 89, 3) := by decide +kernel
theorem d_M_onward_68 : decode b_M_onward 68 = .ok (.ireturn, 1) := by decide +kernel
theorem d_M_onward_69 : decode b_M_onward 69 = .ok (.aload_n 0, 1) := by decide +kernel
theorem d_M_onward_70 : decode b_M_onward 70 = .ok (.getfield 26, 3) := by decide +kernel
theorem d_M_onward_73 : decode b_M_onward 73 = .ok (.iload_n 1, 1) := by decide +kernel
theorem d_M_onward_74 : decode b_M_onward 74 = .ok (.iconst 4, 1) := by decide +kernel
theorem d_M_onward_75 : decode b_M_onward 75 = .ok (.iastore, 1) := by decide +kernel
theorem d_M_onward_76 : decode b_M_onward 76 = .ok (.aload_n 0, 1) := by decide +kernel
theorem d_M_onward_77 : decode b_M_onward 77 = .ok (.getfield 29, 3) := by decide +kernel
theorem d_M_onward_80 : decode b_M_onward 80 = .ok (.iconst 3, 1) := by decide +kernel
theorem d_M_onward_81 : decode b_M_onward 81 = .ok (.iload_n 1, 1) := by decide +kernel
theorem d_M_onward_82 : decode b_M_onward 82 = .ok (.imul, 1) := by decide +kernel
theorem d_M_onward_83 : decode b_M_onward 83 = .ok (.lload_n 2, 1) := by decide +kernel
theorem d_M_onward_84 : decode b_M_onward 84 = .ok (.lload 4, 2) := by decide +kernel
theorem d_M_onward_86 : decode b_M_onward 86 = .ok (.ladd, 1) := by decide +kernel
theorem d_M_onward_87 : decode b_M_onward 87 = .ok (.lastore, 1) := by decide +kernel
theorem d_M_onward_88 : decode b_M_onward 88 = .ok (.aload_n 0, 1) := by decide +kernel
theorem d_M_onward_89 : decode b_M_onward 89 = .ok (.lload_n 2, 1) := by decide +kernel
theorem d_M_onward_90 : decode b_M_onward 90 = .ok (.l2i, 1) := by decide +kernel
theorem d_M_onward_91 : decode b_M_onward 91 = .ok (.invokevirtual 112, 3) := by decide +kernel
theorem d_M_onward_94 : decode b_M_onward 94 = .ok (.ireturn, 1) := by decide +kernel
theorem d_M_choose_0 : decode b_M_choose 0 = .ok (.aload_n 0, 1) := by decide +kernel
theorem d_M_choose_1 : decode b_M_choose 1 = .ok (.getfield 26, 3) := by decide +kernel
theorem d_M_choose_4 : decode b_M_choose 4 = .ok (.iload_n 1, 1) := by decide +kernel
theorem d_M_choose_5 : decode b_M_choose 5 = .ok (.iaload, 1) := by decide +kernel
theorem d_M_choose_6 : decode b_M_choose 6 = .ok (.istore_n 3, 1) := by decide +kernel
theorem d_M_choose_7 : decode b_M_choose 7 = .ok (.iload_n 2, 1) := by decide +kernel
theorem d_M_choose_8 : decode b_M_choose 8 = .ok (.ifCond .ne 27, 3) := by decide +kernel
theorem d_M_choose_11 : decode b_M_choose 11 = .ok (.iload_n 3, 1) := by decide +kernel
theorem d_M_choose_12 : decode b_M_choose 12 = .ok (.ifCond .ne 13, 3) := by decide +kernel
theorem d_M_choose_15 : decode b_M_choose 15 = .ok (.aload_n 0, 1) := by decide +kernel
theorem d_M_choose_16 : decode b_M_choose 16 = .ok (.iload_n 1, 1) := by decide +kernel
theorem d_M_choose_17 : decode b_M_choose 17 = .ok (.iconst 0, 1) := by decide +kernel
theorem d_M_choose_18 : decode b_M_choose 18 = .ok (.iconst 1, 1) := by decide +kernel
theorem d_M_choose_19 : decode b_M_choose 19 = .ok (.invokevirtual 115, 3) := by decide +kernel
theorem d_M_choose_22 : decode b_M_choose 22 = .ok (.goto 12, 3) := by decide +kernel
theorem d_M_choose_25 : decode b_M_choose 25 = .ok (.aload_n 0, 1) := by decide +kernel
theorem d_M_choose_26 : decode b_M_choose 26 = .ok (.iload_n 1, 1) := by decide +kernel
theorem d_M_choose_27 : decode b_M_choose 27 = .ok (.iload_n 3, 1) := by decide +kernel
theorem d_M_choose_28 : decode b_M_choose 28 = .ok (.iconst 1, 1) := by decide +kernel
theorem d_M_choose_29 : decode b_M_choose 29 = .ok (.isub, 1) := by decide +kernel
theorem d_M_choose_30 : decode b_M_choose 30 = .ok (.iload_n 3, 1) := by decide +kernel
theorem d_M_choose_31 : decode b_M_choose 31 = .ok (.invokevirtual 89, 3) := by decide +kernel
theorem d_M_choose_34 : decode b_M_choose 34 = .ok (.ireturn, 1) := by decide +kernel
theorem d_M_choose_35 : decode b_M_choose 35 = .ok (.iload_n 3, 1) := by decide +kernel
theorem d_M_choose_36 : decode b_M_choose 36 = .ok (.iconst 1, 1) := by decide +kernel
theorem d_M_choose_37 : decode b_M_choose 37 = .ok (.if_icmp .ne 26, 3) := by decide +kernel
theorem d_M_choose_40 : decode b_M_choose 40 = .ok (.iload_n 2, 1) := by decide +kernel
theorem d_M_choose_41 : decode b_M_choose 41 = .ok (.iconst 1, 1) := by decide +kernel
theorem d_M_choose_42 : decode b_M_choose 42 = .ok (.if_icmp .ne 13, 3) := by decide +kernel
theorem d_M_choose_45 : decode b_M_choose 45 = .ok (.aload_n 0, 1) := by decide +kernel
theorem d_M_choose_46 : decode b_M_choose 46 = .ok (.iload_n 1, 1) := by decide +kernel
theorem d_M_choose_47 : decode b_M_choose 47 = .ok (.iconst 1, 1) := by decide +kernel
theorem d_M_choose_48 : decode b_M_choose 48 = .ok (.iconst 2, 1) := by decide +kernel
theorem d_M_choose_49 : decode b_M_choose 49 = .ok (.invokevirtual 115, 3) := by decide +kernel
theorem d_M_choose_52 : decode b_M_choose 52 = .ok (.goto 10, 3) := by decide +kernel
theorem d_M_choose_55 : decode b_M_choose 55 = .ok (.aload_n 0, 1) := by decide +kernel
theorem d_M_choose_56 : decode b_M_choose 56 = .ok (.iload_n 1, 1) := by decide +kernel
theorem d_M_choose_57 : decode b_M_choose 57 = .ok (.iconst 2, 1) := by decide +kernel
theorem d_M_choose_58 : decode b_M_choose 58 = .ok (.iconst 3, 1) := by decide +kernel
theorem d_M_choose_59 : decode b_M_choose 59 = .ok (.invokevirtual 115, 3) := by decide +kernel
theorem d_M_choose_62 : decode b_M_choose 62 = .ok (.ireturn, 1) := by decide +kernel
theorem d_M_choose_63 : decode b_M_choose 63 = .ok (.iload_n 2, 1) := by decide +kernel
theorem d_M_choose_64 : decode b_M_choose 64 = .ok (.iconst 1, 1) := by decide +kernel
theorem d_M_choose_65 : decode b_M_choose 65 = .ok (.if_icmp .ne 7, 3) := by decide +kernel
theorem d_M_choose_68 : decode b_M_choose 68 = .ok (.iconst 1, 1) := by decide +kernel
theorem d_M_choose_69 : decode b_M_choose 69 = .ok (.goto 4, 3) := by decide +kernel
theorem d_M_choose_72 : decode b_M_choose 72 = .ok (.iconst 0, 1) := by decide +kernel
theorem d_M_choose_73 : decode b_M_choose 73 = .ok (.ireturn, 1) := by decide +kernel
theorem d_M_next_0 : decode b_M_next 0 = .ok (.aload_n 0, 1) := by decide +kernel
theorem d_M_next_1 : decode b_M_next 1 = .ok (.getfield 39, 3) := by decide +kernel
theorem d_M_next_4 : decode b_M_next 4 = .ok (.ifCond .ge 5, 3) := by decide +kernel
theorem d_M_next_7 : decode b_M_next 7 = .ok (.iconst (-1), 1) := by decide +kernel
theorem d_M_next_8 : decode b_M_next 8 = .ok (.ireturn, 1) := by decide +kernel
theorem d_M_next_9 : decode b_M_next 9 = .ok (.aload_n 0, 1) := by decide +kernel
theorem d_M_next_10 : decode b_M_next 10 = .ok (.getfield 61, 3) := by decide +kernel
theorem d_M_next_13 : decode b_M_next 13 = .ok (.iconst 2, 1) := by decide +kernel
theorem d_M_next_14 : decode b_M_next 14 = .ok (.if_icmp .eq 8, 3) := by decide +kernel
theorem d_M_next_17 : decode b_M_next 17 = .ok (.aload_n 0, 1) := by decide +kernel
theorem d_M_next_18 : decode b_M_next 18 = .ok (.getfield 61, 3) := by decide +kernel
theorem d_M_next_21 : decode b_M_next 21 = .ok (.ireturn, 1) := by decide +kernel
theorem d_M_next_22 : decode b_M_next 22 = .ok (.aload_n 0, 1) := by decide +kernel
theorem d_M_next_23 : decode b_M_next 23 = .ok (.iconst 0, 1) := by decide +kernel
theorem d_M_next_24 : decode b_M_next 24 = .ok (.putfield 79, 3) := by decide +kernel
theorem d_M_next_27 : decode b_M_next 27 = .ok (.aload_n 0, 1) := by decide +kernel
theorem d_M_next_28 : decode b_M_next 28 = .ok (.getfield 43, 3) := by decide +kernel
theorem d_M_next_31 : decode b_M_next 31 = .ok (.iconst 0, 1) := by decide +kernel
theorem d_M_next_32 : decode b_M_next 32 = .ok (.aload_n 0, 1) := by decide +kernel
theorem d_M_next_33 : decode b_M_next 33 = .ok (.getfield 39, 3) := by decide +kernel
theorem d_M_next_36 : decode b_M_next 36 = .ok (.iastore, 1) := by decide +kernel
theorem d_M_next_37 : decode b_M_next 37 = .ok (.aload_n 0, 1) := by decide +kernel
theorem d_M_next_38 : decode b_M_next 38 = .ok (.iconst 1, 1) := by decide +kernel
theorem d_M_next_39 : decode b_M_next 39 = .ok (.putfield 86, 3) := by decide +kernel
theorem d_M_next_42 : decode b_M_next 42 = .ok (.iconst 0, 1) := by decide +kernel
theorem d_M_next_43 : decode b_M_next 43 = .ok (.istore_n 1, 1) := by decide +kernel
theorem d_M_next_44 : decode b_M_next 44 = .ok (.iconst 0, 1) := by decide +kernel
theorem d_M_next_45 : decode b_M_next 45 = .ok (.istore_n 2, 1) := by decide +kernel
theorem d_M_next_46 : decode b_M_next 46 = .ok (.iload_n 2, 1) := by decide +kernel
theorem d_M_next_47 : decode b_M_next 47 = .ok (.ldc 124, 2) := by decide +kernel
theorem d_M_next_49 : decode b_M_next 49 = .ok (.if_icmp .ge 89, 3) := by decide +kernel
theorem d_M_next_52 : decode b_M_next 52 = .ok (.aload_n 0, 1) := by decide +kernel
theorem d_M_next_53 : decode b_M_next 53 = .ok (.getfield 86, 3) := by decide +kernel
theorem d_M_next_56 : decode b_M_next 56 = .ok (.ifCond .le 82, 3) := by decide +kernel
theorem d_M_next_59 : decode b_M_next 59 = .ok (.aload_n 0, 1) := by decide +kernel
theorem d_M_next_60 : decode b_M_next 60 = .ok (.getfield 43, 3) := by decide +kernel
theorem d_M_next_63 : decode b_M_next 63 = .ok (.aload_n 0, 1) := by decide +kernel
theorem d_M_next_64 : decode b_M_next 64 = .ok (.getfield 86, 3) := by decide +kernel
theorem d_M_next_67 : decode b_M_next 67 = .ok (.iconst 1, 1) := by decide +kernel
theorem d_M_next_68 : decode b_M_next 68 = .ok (.isub, 1) := by decide +kernel
theorem d_M_next_69 : decode b_M_next 69 = .ok (.iaload, 1) := by decide +kernel
theorem d_M_next_70 : decode b_M_next 70 = .ok (.istore_n 3, 1) := by decide +kernel
theorem d_M_next_71 : decode b_M_next 71 = .ok (.aload_n 0, 1) := by decide +kernel
theorem d_M_next_72 : decode b_M_next 72 = .ok (.iload_n 3, 1) := by decide +kernel
theorem d_M_next_73 : decode b_M_next 73 = .ok (.iload_n 1, 1) := by decide +kernel
theorem d_M_next_74 : decode b_M_next 74 = .ok (.invokevirtual 125, 3) := by decide +kernel
theorem d_M_next_77 : decode b_M_next 77 = .ok (.istore 4, 2) := by decide +kernel
theorem d_M_next_79 : decode b_M_next 79 = .ok (.aload_n 0, 1) := by decide +kernel
theorem d_M_next_80 : decode b_M_next 80 = .ok (.getfield 79, 3) := by decide +kernel
theorem d_M_next_83 : decode b_M_next 83 = .ok (.ifCond .eq 16, 3) := by decide +kernel
theorem d_M_next_86 : decode b_M_next 86 = .ok (.aload_n 0, 1) := by decide +kernel
theorem d_M_next_87 : decode b_M_next 87 = .ok (.aload_n 0, 1) := by decide +kernel
theorem d_M_next_88 : decode b_M_next 88 = .ok (.getfield 79, 3) := by decide +kernel
theorem d_M_next_91 : decode b_M_next 91 = .ok (.putfield 61, 3) := by decide +kernel
theorem d_M_next_94 : decode b_M_next 94 = .ok (.aload_n 0, 1) := by decide +kernel
theorem d_M_next_95 : decode b_M_next 95 = .ok (.getfield 61, 3) := by decide +kernel
theorem d_M_next_98 : decode b_M_next 98 = .ok (.ireturn, 1) := by decide +kernel
theorem d_M_next_99 : decode b_M_next 99 = .ok (.iload 4, 2) := by decide +kernel
theorem d_M_next_101 : decode b_M_next 101 = .ok (.iconst 2, 1) := by decide +kernel
theorem d_M_next_102 : decode b_M_next 102 = .ok (.if_icmp .ne 8, 3) := by decide +kernel
theorem d_M_next_105 : decode b_M_next 105 = .ok (.iconst 0, 1) := by decide +kernel
theorem d_M_next_106 : decode b_M_next 106 = .ok (.istore_n 1, 1) := by decide +kernel
theorem d_M_next_107 : decode b_M_next 107 = .ok (.goto 25, 3) := by decide +kernel
theorem d_M_next_110 : decode b_M_next 110 = .ok (.aload_n 0, 1) := by decide +kernel
theorem d_M_next_111 : decode b_M_next 111 = .ok (.dup, 1) := by decide +kernel
theorem d_M_next_112 : decode b_M_next 112 = .ok (.getfield 86, 3) := by decide +kernel
theorem d_M_next_115 : decode b_M_next 115 = .ok (.iconst 1, 1) := by decide +kernel
theorem d_M_next_116 : decode b_M_next 116 = .ok (.isub, 1) := by decide +kernel
theorem d_M_next_117 : decode b_M_next 117 = .ok (.putfield 86, 3) := by decide +kernel
theorem d_M_next_120 : decode b_M_next 120 = .ok (.iload 4, 2) := by decide +kernel
theorem d_M_next_122 : decode b_M_next 122 = .ok (.iconst 1, 1) := by decide +kernel
theorem d_M_next_123 : decode b_M_next 123 = .ok (.if_icmp .ne 7, 3) := by decide +kernel
theorem d_M_next_126 : decode b_M_next 126 = .ok (.iconst 1, 1) := by decide +kernel
theorem d_M_next_127 : decode b_M_next 127 = .ok (.goto 4, 3) := by decide +kernel
theorem d_M_next_130 : decode b_M_next 130 = .ok (.iconst 2, 1) := by decide +kernel
theorem d_M_next_131 : decode b_M_next 131 = .ok (.istore_n 1, 1) := by decide +kernel
theorem d_M_next_132 : decode b_M_next 132 = .ok (.iinc 2 1, 3) := by decide +kernel
theorem d_M_next_135 : decode b_M_next 135 = .ok (.goto (-89), 3) := by decide +kernel
theorem d_M_next_138 : decode b_M_next 138 = .ok (.iload_n 1, 1) := by decide +kernel
theorem d_M_next_139 : decode b_M_next 139 = .ok (.iconst 2, 1) := by decide +kernel
theorem d_M_next_140 : decode b_M_next 140 = .ok (.if_icmp .ne 10, 3) := by decide +kernel
theorem d_M_next_143 : decode b_M_next 143 = .ok (.aload_n 0, 1) := by decide +kernel
theorem d_M_next_144 : decode b_M_next 144 = .ok (.iconst 0, 1) := by decide +kernel
theorem d_M_next_145 : decode b_M_next 145 = .ok (.putfield 61, 3) := by decide +kernel
theorem d_M_next_148 : decode b_M_next 148 = .ok (.iconst 0, 1) := by decide +kernel
theorem d_M_next_149 : decode b_M_next 149 = .ok (.ireturn, 1) := by decide +kernel
theorem d_M_next_150 : decode b_M_next 150 = .ok (.aload_n 0, 1) := by decide +kernel
theorem d_M_next_151 : decode b_M_next 151 = .ok (.aload_n 0, 1) := by decide +kernel
theorem d_M_next_152 : decode b_M_next 152 = .ok (.getfield 76, 3) := by decide +kernel
theorem d_M_next_155 : decode b_M_next 155 = .ok (.putfield 70, 3) := by decide +kernel
theorem d_M_next_158 : decode b_M_next 158 = .ok (.iconst 1, 1) := by decide +kernel
theorem d_M_next_159 : decode b_M_next 159 = .ok (.ireturn, 1) := by decide +kernel
theorem d_M_skip_0 : decode b_M_skip 0 = .ok (.iconst 0, 1) := by decide +kernel
theorem d_M_skip_1 : decode b_M_skip 1 = .ok (.istore_n 2, 1) := by decide +kernel
theorem d_M_skip_2 : decode b_M_skip 2 = .ok (.iload_n 1, 1) := by decide +kernel
theorem d_M_skip_3 : decode b_M_skip 3 = .ok (.iconst 1, 1) := by decide +kernel
theorem d_M_skip_4 : decode b_M_skip 4 = .ok (.bipush 100, 2) := by decide +kernel
theorem d_M_skip_6 : decode b_M_skip 6 = .ok (.invokestatic 49, 3) := by decide +kernel
theorem d_M_skip_9 : decode b_M_skip 9 = .ok (.ifCond .ne 5, 3) := by decide +kernel
theorem d_M_skip_12 : decode b_M_skip 12 = .ok (.iconst 0, 1) := by decide +kernel
theorem d_M_skip_13 : decode b_M_skip 13 = .ok (.ireturn, 1) := by decide +kernel
theorem d_M_skip_14 : decode b_M_skip 14 = .ok (.iconst 0, 1) := by decide +kernel
theorem d_M_skip_15 : decode b_M_skip 15 = .ok (.istore_n 3, 1) := by decide +kernel
theorem d_M_skip_16 : decode b_M_skip 16 = .ok (.iload_n 3, 1) := by decide +kernel
theorem d_M_skip_17 : decode b_M_skip 17 = .ok (.iload_n 1, 1) := by decide +kernel
theorem d_M_skip_18 : decode b_M_skip 18 = .ok (.if_icmp .ge 26, 3) := by decide +kernel
theorem d_M_skip_21 : decode b_M_skip 21 = .ok (.aload_n 0, 1) := by decide +kernel
theorem d_M_skip_22 : decode b_M_skip 22 = .ok (.invokevirtual 128, 3) := by decide +kernel
theorem d_M_skip_25 : decode b_M_skip 25 = .ok (.istore 4, 2) := by decide +kernel
theorem d_M_skip_27 : decode b_M_skip 27 = .ok (.iload 4, 2) := by decide +kernel
theorem d_M_skip_29 : decode b_M_skip 29 = .ok (.iconst 1, 1) := by decide +kernel
theorem d_M_skip_30 : decode b_M_skip 30 = .ok (.if_icmp .eq 5, 3) := by decide +kernel
theorem d_M_skip_33 : decode b_M_skip 33 = .ok (.iload_n 2, 1) := by decide +kernel
theorem d_M_skip_34 : decode b_M_skip 34 = .ok (.ireturn, 1) := by decide +kernel
theorem d_M_skip_35 : decode b_M_skip 35 = .ok (.iinc 2 1, 3) := by decide +kernel
theorem d_M_skip_38 : decode b_M_skip 38 = .ok (.iinc 3 1, 3) := by decide +kernel
theorem d_M_skip_41 : decode b_M_skip 41 = .ok (.goto (-25), 3) := by decide +kernel
theorem d_M_skip_44 : decode b_M_skip 44 = .ok (.iload_n 2, 1) := by decide +kernel
theorem d_M_skip_45 : decode b_M_skip 45 = .ok (.ireturn, 1) := by decide +kernel
theorem d_M_value_0 : decode b_M_value 0 = .ok (.aload_n 0, 1) := by decide +kernel
theorem d_M_value_1 : decode b_M_value 1 = .ok (.getfield 70, 3) := by decide +kernel
theorem d_M_value_4 : decode b_M_value 4 = .ok (.ireturn, 1) := by decide +kernel
theorem d_M_writes_0 : decode b_M_writes 0 = .ok (.aload_n 0, 1) := by decide +kernel
theorem d_M_writes_1 : decode b_M_writes 1 = .ok (.getfield 73, 3) := by decide +kernel
theorem d_M_writes_4 : decode b_M_writes 4 = .ok (.ireturn, 1) := by decide +kernel
theorem d_M_written_0 : decode b_M_written 0 = .ok (.iload_n 1, 1) := by decide +kernel
theorem d_M_written_1 : decode b_M_written 1 = .ok (.iconst 0, 1) := by decide +kernel
theorem d_M_written_2 : decode b_M_written 2 = .ok (.aload_n 0, 1) := by decide +kernel
theorem d_M_written_3 : decode b_M_written 3 = .ok (.getfield 73, 3) := by decide +kernel
theorem d_M_written_6 : decode b_M_written 6 = .ok (.iconst 1, 1) := by decide +kernel
theorem d_M_written_7 : decode b_M_written 7 = .ok (.isub, 1) := by decide +kernel
theorem d_M_written_8 : decode b_M_written 8 = .ok (.invokestatic 49, 3) := by decide +kernel
theorem d_M_written_11 : decode b_M_written 11 = .ok (.ifCond .eq 13, 3) := by decide +kernel
theorem d_M_written_14 : decode b_M_written 14 = .ok (.aload_n 0, 1) := by decide +kernel
theorem d_M_written_15 : decode b_M_written 15 = .ok (.getfield 36, 3) := by decide +kernel
theorem d_M_written_18 : decode b_M_written 18 = .ok (.iload_n 1, 1) := by decide +kernel
theorem d_M_written_19 : decode b_M_written 19 = .ok (.iaload, 1) := by decide +kernel
theorem d_M_written_20 : decode b_M_written 20 = .ok (.i2l, 1) := by decide +kernel
theorem d_M_written_21 : decode b_M_written 21 = .ok (.goto 6, 3) := by decide +kernel
theorem d_M_written_24 : decode b_M_written 24 = .ok (.ldc2_w 132, 3) := by decide +kernel
theorem d_M_written_27 : decode b_M_written 27 = .ok (.lreturn, 1) := by decide +kernel
theorem d_M_cost_0 : decode b_M_cost 0 = .ok (.aload_n 0, 1) := by decide +kernel
theorem d_M_cost_1 : decode b_M_cost 1 = .ok (.getfield 67, 3) := by decide +kernel
theorem d_M_cost_4 : decode b_M_cost 4 = .ok (.ireturn, 1) := by decide +kernel
