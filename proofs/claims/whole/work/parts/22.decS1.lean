/-! decoded rows -/
theorem d_S_init_0 : decode b_S_init 0 = .ok (.aload_n 0, 1) := by decide +kernel
theorem d_S_init_1 : decode b_S_init 1 = .ok (.invokespecial 1, 3) := by decide +kernel
theorem d_S_init_4 : decode b_S_init 4 = .ok (.aload_n 0, 1) := by decide +kernel
theorem d_S_init_5 : decode b_S_init 5 = .ok (.new 7, 3) := by decide +kernel
theorem d_S_init_8 : decode b_S_init 8 = .ok (.dup, 1) := by decide +kernel
theorem d_S_init_9 : decode b_S_init 9 = .ok (.invokespecial 9, 3) := by decide +kernel
theorem d_S_init_12 : decode b_S_init 12 = .ok (.putfield 10, 3) := by decide +kernel
theorem d_S_init_15 : decode b_S_init 15 = .ok (.aload_n 0, 1) := by decide +kernel
theorem d_S_init_16 : decode b_S_init 16 = .ok (.bipush 60, 2) := by decide +kernel
theorem d_S_init_18 : decode b_S_init 18 = .ok (.newarray .int, 2) := by decide +kernel
theorem d_S_init_20 : decode b_S_init 20 = .ok (.putfield 16, 3) := by decide +kernel
theorem d_S_init_23 : decode b_S_init 23 = .ok (.aload_n 0, 1) := by decide +kernel
theorem d_S_init_24 : decode b_S_init 24 = .ok (.bipush 60, 2) := by decide +kernel
theorem d_S_init_26 : decode b_S_init 26 = .ok (.newarray .int, 2) := by decide +kernel
theorem d_S_init_28 : decode b_S_init 28 = .ok (.putfield 20, 3) := by decide +kernel
theorem d_S_init_31 : decode b_S_init 31 = .ok (.aload_n 0, 1) := by decide +kernel
theorem d_S_init_32 : decode b_S_init 32 = .ok (.bipush 60, 2) := by decide +kernel
theorem d_S_init_34 : decode b_S_init 34 = .ok (.newarray .long, 2) := by decide +kernel
theorem d_S_init_36 : decode b_S_init 36 = .ok (.putfield 23, 3) := by decide +kernel
theorem d_S_init_39 : decode b_S_init 39 = .ok (.aload_n 0, 1) := by decide +kernel
theorem d_S_init_40 : decode b_S_init 40 = .ok (.bipush 8, 2) := by decide +kernel
theorem d_S_init_42 : decode b_S_init 42 = .ok (.newarray .int, 2) := by decide +kernel
theorem d_S_init_44 : decode b_S_init 44 = .ok (.putfield 27, 3) := by decide +kernel
theorem d_S_init_47 : decode b_S_init 47 = .ok (.aload_n 0, 1) := by decide +kernel
theorem d_S_init_48 : decode b_S_init 48 = .ok (.bipush 32, 2) := by decide +kernel
theorem d_S_init_50 : decode b_S_init 50 = .ok (.newarray .int, 2) := by decide +kernel
theorem d_S_init_52 : decode b_S_init 52 = .ok (.putfield 30, 3) := by decide +kernel
theorem d_S_init_55 : decode b_S_init 55 = .ok (.aload_n 0, 1) := by decide +kernel
theorem d_S_init_56 : decode b_S_init 56 = .ok (.iconst 0, 1) := by decide +kernel
theorem d_S_init_57 : decode b_S_init 57 = .ok (.putfield 33, 3) := by decide +kernel
theorem d_S_init_60 : decode b_S_init 60 = .ok (.aload_n 0, 1) := by decide +kernel
theorem d_S_init_61 : decode b_S_init 61 = .ok (.iconst 0, 1) := by decide +kernel
theorem d_S_init_62 : decode b_S_init 62 = .ok (.putfield 37, 3) := by decide +kernel
theorem d_S_init_65 : decode b_S_init 65 = .ok (.aload_n 0, 1) := by decide +kernel
theorem d_S_init_66 : decode b_S_init 66 = .ok (.iconst 0, 1) := by decide +kernel
theorem d_S_init_67 : decode b_S_init 67 = .ok (.putfield 40, 3) := by decide +kernel
theorem d_S_init_70 : decode b_S_init 70 = .ok (.aload_n 0, 1) := by decide +kernel
theorem d_S_init_71 : decode b_S_init 71 = .ok (.iconst 0, 1) := by decide +kernel
theorem d_S_init_72 : decode b_S_init 72 = .ok (.putfield 43, 3) := by decide +kernel
theorem d_S_init_75 : decode b_S_init 75 = .ok (.aload_n 0, 1) := by decide +kernel
theorem d_S_init_76 : decode b_S_init 76 = .ok (.iconst 0, 1) := by decide +kernel
theorem d_S_init_77 : decode b_S_init 77 = .ok (.putfield 46, 3) := by decide +kernel
theorem d_S_init_80 : decode b_S_init 80 = .ok (.aload_n 0, 1) := by decide +kernel
theorem d_S_init_81 : decode b_S_init 81 = .ok (.iconst (-1), 1) := by decide +kernel
theorem d_S_init_82 : decode b_S_init 82 = .ok (.putfield 49, 3) := by decide +kernel
theorem d_S_init_85 : decode b_S_init 85 = .ok (.return_, 1) := by decide +kernel
theorem d_S_open_0 : decode b_S_open 0 = .ok (.aload_n 0, 1) := by decide +kernel
theorem d_S_open_1 : decode b_S_open 1 = .ok (.iload_n 1, 1) := by decide +kernel
theorem d_S_open_2 : decode b_S_open 2 = .ok (.invokevirtual 52, 3) := by decide +kernel
theorem d_S_open_5 : decode b_S_open 5 = .ok (.aload_n 0, 1) := by decide +kernel
theorem d_S_open_6 : decode b_S_open 6 = .ok (.iload_n 1, 1) := by decide +kernel
theorem d_S_open_7 : decode b_S_open 7 = .ok (.putfield 46, 3) := by decide +kernel
theorem d_S_open_10 : decode b_S_open 10 = .ok (.aload_n 0, 1) := by decide +kernel
theorem d_S_open_11 : decode b_S_open 11 = .ok (.iload_n 2, 1) := by decide +kernel
theorem d_S_open_12 : decode b_S_open 12 = .ok (.putfield 43, 3) := by decide +kernel
theorem d_S_open_15 : decode b_S_open 15 = .ok (.aload_n 0, 1) := by decide +kernel
theorem d_S_open_16 : decode b_S_open 16 = .ok (.iconst 0, 1) := by decide +kernel
theorem d_S_open_17 : decode b_S_open 17 = .ok (.putfield 37, 3) := by decide +kernel
theorem d_S_open_20 : decode b_S_open 20 = .ok (.aload_n 0, 1) := by decide +kernel
theorem d_S_open_21 : decode b_S_open 21 = .ok (.iconst 0, 1) := by decide +kernel
theorem d_S_open_22 : decode b_S_open 22 = .ok (.putfield 33, 3) := by decide +kernel
theorem d_S_open_25 : decode b_S_open 25 = .ok (.aload_n 0, 1) := by decide +kernel
theorem d_S_open_26 : decode b_S_open 26 = .ok (.iconst 0, 1) := by decide +kernel
theorem d_S_open_27 : decode b_S_open 27 = .ok (.putfield 40, 3) := by decide +kernel
theorem d_S_open_30 : decode b_S_open 30 = .ok (.aload_n 0, 1) := by decide +kernel
theorem d_S_open_31 : decode b_S_open 31 = .ok (.iconst 1, 1) := by decide +kernel
theorem d_S_open_32 : decode b_S_open 32 = .ok (.putfield 49, 3) := by decide +kernel
theorem d_S_open_35 : decode b_S_open 35 = .ok (.return_, 1) := by decide +kernel
theorem d_S_proceed_0 : decode b_S_proceed 0 = .ok (.aload_n 0, 1) := by decide +kernel
theorem d_S_proceed_1 : decode b_S_proceed 1 = .ok (.getfield 49, 3) := by decide +kernel
theorem d_S_proceed_4 : decode b_S_proceed 4 = .ok (.iconst 1, 1) := by decide +kernel
theorem d_S_proceed_5 : decode b_S_proceed 5 = .ok (.if_icmp .eq 8, 3) := by decide +kernel
theorem d_S_proceed_8 : decode b_S_proceed 8 = .ok (.aload_n 0, 1) := by decide +kernel
theorem d_S_proceed_9 : decode b_S_proceed 9 = .ok (.getfield 49, 3) := by decide +kernel
theorem d_S_proceed_12 : decode b_S_proceed 12 = .ok (.ireturn, 1) := by decide +kernel
theorem d_S_proceed_13 : decode b_S_proceed 13 = .ok (.aload_n 0, 1) := by decide +kernel
theorem d_S_proceed_14 : decode b_S_proceed 14 = .ok (.aload_n 0, 1) := by decide +kernel
theorem d_S_proceed_15 : decode b_S_proceed 15 = .ok (.aload_n 0, 1) := by decide +kernel
theorem d_S_proceed_16 : decode b_S_proceed 16 = .ok (.getfield 46, 3) := by decide +kernel
theorem d_S_proceed_19 : decode b_S_proceed 19 = .ok (.invokevirtual 56, 3) := by decide +kernel
theorem d_S_proceed_22 : decode b_S_proceed 22 = .ok (.putfield 49, 3) := by decide +kernel
theorem d_S_proceed_25 : decode b_S_proceed 25 = .ok (.aload_n 0, 1) := by decide +kernel
theorem d_S_proceed_26 : decode b_S_proceed 26 = .ok (.getfield 49, 3) := by decide +kernel
theorem d_S_proceed_29 : decode b_S_proceed 29 = .ok (.iconst 1, 1) := by decide +kernel
theorem d_S_proceed_30 : decode b_S_proceed 30 = .ok (.if_icmp .ne 16, 3) := by decide +kernel
theorem d_S_proceed_33 : decode b_S_proceed 33 = .ok (.aload_n 0, 1) := by decide +kernel
theorem d_S_proceed_34 : decode b_S_proceed 34 = .ok (.aload_n 0, 1) := by decide +kernel
theorem d_S_proceed_35 : decode b_S_proceed 35 = .ok (.getfield 20, 3) := by decide +kernel
theorem d_S_proceed_38 : decode b_S_proceed 38 = .ok (.aload_n 0, 1) := by decide +kernel
theorem d_S_proceed_39 : decode b_S_proceed 39 = .ok (.getfield 46, 3) := by decide +kernel
theorem d_S_proceed_42 : decode b_S_proceed 42 = .ok (.iaload, 1) := by decide +kernel
theorem d_S_proceed_43 : decode b_S_proceed 43 = .ok (.putfield 40, 3) := by decide +kernel
theorem d_S_proceed_46 : decode b_S_proceed 46 = .ok (.aload_n 0, 1) := by decide +kernel
theorem d_S_proceed_47 : decode b_S_proceed 47 = .ok (.getfield 49, 3) := by decide +kernel
theorem d_S_proceed_50 : decode b_S_proceed 50 = .ok (.ireturn, 1) := by decide +kernel
theorem d_S_start_0 : decode b_S_start 0 = .ok (.aload_n 0, 1) := by decide +kernel
theorem d_S_start_1 : decode b_S_start 1 = .ok (.getfield 16, 3) := by decide +kernel
theorem d_S_start_4 : decode b_S_start 4 = .ok (.iload_n 1, 1) := by decide +kernel
theorem d_S_start_5 : decode b_S_start 5 = .ok (.iconst 0, 1) := by decide +kernel
theorem d_S_start_6 : decode b_S_start 6 = .ok (.iastore, 1) := by decide +kernel
theorem d_S_start_7 : decode b_S_start 7 = .ok (.return_, 1) := by decide +kernel
theorem d_S_tryOnce_0 : decode b_S_tryOnce 0 = .ok (.aload_n 0, 1) := by decide +kernel
theorem d_S_tryOnce_1 : decode b_S_tryOnce 1 = .ok (.iload_n 1, 1) := by decide +kernel
theorem d_S_tryOnce_2 : decode b_S_tryOnce 2 = .ok (.invokevirtual 52, 3) := by decide +kernel
theorem d_S_tryOnce_5 : decode b_S_tryOnce 5 = .ok (.aload_n 0, 1) := by decide +kernel
theorem d_S_tryOnce_6 : decode b_S_tryOnce 6 = .ok (.iload_n 1, 1) := by decide +kernel
theorem d_S_tryOnce_7 : decode b_S_tryOnce 7 = .ok (.invokevirtual 56, 3) := by decide +kernel
theorem d_S_tryOnce_10 : decode b_S_tryOnce 10 = .ok (.ireturn, 1) := by decide +kernel
theorem d_S_ask_0 : decode b_S_ask 0 = .ok (.aload_n 0, 1) := by decide +kernel
theorem d_S_ask_1 : decode b_S_ask 1 = .ok (.getfield 10, 3) := by decide +kernel
theorem d_S_ask_4 : decode b_S_ask 4 = .ok (.getfield 60, 3) := by decide +kernel
theorem d_S_ask_7 : decode b_S_ask 7 = .ok (.iload_n 1, 1) := by decide +kernel
theorem d_S_ask_8 : decode b_S_ask 8 = .ok (.iaload, 1) := by decide +kernel
theorem d_S_ask_9 : decode b_S_ask 9 = .ok (.tableswitch 222 0 19 #[95, 110, 130, 136, 142, 148, 154, 160, 180, 180, 180, 186, 186, 186, 192, 198, 198, 204, 210, 216], 95) := by decide +kernel
theorem d_S_ask_104 : decode b_S_ask 104 = .ok (.aload_n 0, 1) := by decide +kernel
theorem d_S_ask_105 : decode b_S_ask 105 = .ok (.iload_n 1, 1) := by decide +kernel
theorem d_S_ask_106 : decode b_S_ask 106 = .ok (.aload_n 0, 1) := by decide +kernel
theorem d_S_ask_107 : decode b_S_ask 107 = .ok (.getfield 10, 3) := by decide +kernel
theorem d_S_ask_110 : decode b_S_ask 110 = .ok (.getfield 63, 3) := by decide +kernel
theorem d_S_ask_113 : decode b_S_ask 113 = .ok (.iload_n 1, 1) := by decide +kernel
theorem d_S_ask_114 : decode b_S_ask 114 = .ok (.iaload, 1) := by decide +kernel
theorem d_S_ask_115 : decode b_S_ask 115 = .ok (.invokevirtual 66, 3) := by decide +kernel
theorem d_S_ask_118 : decode b_S_ask 118 = .ok (.ireturn, 1) := by decide +kernel
theorem d_S_ask_119 : decode b_S_ask 119 = .ok (.aload_n 0, 1) := by decide +kernel
theorem d_S_ask_120 : decode b_S_ask 120 = .ok (.iload_n 1, 1) := by decide +kernel
theorem d_S_ask_121 : decode b_S_ask 121 = .ok (.aload_n 0, 1) := by decide +kernel
theorem d_S_ask_122 : decode b_S_ask 122 = .ok (.getfield 27, 3) := by decide +kernel
theorem d_S_ask_125 : decode b_S_ask 125 = .ok (.aload_n 0, 1) := by decide +kernel
theorem d_S_ask_126 : decode b_S_ask 126 = .ok (.getfield 10, 3) := by decide +kernel
theorem d_S_ask_129 : decode b_S_ask 129 = .ok (.getfield 63, 3) := by decide +kernel
theorem d_S_ask_132 : decode b_S_ask 132 = .ok (.iload_n 1, 1) := by decide +kernel
theorem d_S_ask_133 : decode b_S_ask 133 = .ok (.iaload, 1) := by decide +kernel
theorem d_S_ask_134 : decode b_S_ask 134 = .ok (.iaload, 1) := by decide +kernel
theorem d_S_ask_135 : decode b_S_ask 135 = .ok (.invokevirtual 66, 3) := by decide +kernel
theorem d_S_ask_138 : decode b_S_ask 138 = .ok (.ireturn, 1) := by decide +kernel
theorem d_S_ask_139 : decode b_S_ask 139 = .ok (.aload_n 0, 1) := by decide +kernel
theorem d_S_ask_140 : decode b_S_ask 140 = .ok (.iload_n 1, 1) := by decide +kernel
theorem d_S_ask_141 : decode b_S_ask 141 = .ok (.invokevirtual 70, 3) := by decide +kernel
theorem d_S_ask_144 : decode b_S_ask 144 = .ok (.ireturn, 1) := by decide +kernel
theorem d_S_ask_145 : decode b_S_ask 145 = .ok (.aload_n 0, 1) := by decide +kernel
theorem d_S_ask_146 : decode b_S_ask 146 = .ok (.iload_n 1, 1) := by decide +kernel
theorem d_S_ask_147 : decode b_S_ask 147 = .ok (.invokevirtual 73, 3) := by decide +kernel
theorem d_S_ask_150 : decode b_S_ask 150 = .ok (.ireturn, 1) := by decide +kernel
theorem d_S_ask_151 : decode b_S_ask 151 = .ok (.aload_n 0, 1) := by decide +kernel
theorem d_S_ask_152 : decode b_S_ask 152 = .ok (.iload_n 1, 1) := by decide +kernel
theorem d_S_ask_153 : decode b_S_ask 153 = .ok (.invokevirtual 76, 3) := by decide +kernel
theorem d_S_ask_156 : decode b_S_ask 156 = .ok (.ireturn, 1) := by decide +kernel
theorem d_S_ask_157 : decode b_S_ask 157 = .ok (.aload_n 0, 1) := by decide +kernel
theorem d_S_ask_158 : decode b_S_ask 158 = .ok (.iload_n 1, 1) := by decide +kernel
theorem d_S_ask_159 : decode b_S_ask 159 = .ok (.invokevirtual 79, 3) := by decide +kernel
theorem d_S_ask_162 : decode b_S_ask 162 = .ok (.ireturn, 1) := by decide +kernel
theorem d_S_ask_163 : decode b_S_ask 163 = .ok (.aload_n 0, 1) := by decide +kernel
theorem d_S_ask_164 : decode b_S_ask 164 = .ok (.iload_n 1, 1) := by decide +kernel
theorem d_S_ask_165 : decode b_S_ask 165 = .ok (.invokevirtual 82, 3) := by decide +kernel
theorem d_S_ask_168 : decode b_S_ask 168 = .ok (.ireturn, 1) := by decide +kernel
theorem d_S_ask_169 : decode b_S_ask 169 = .ok (.aload_n 0, 1) := by decide +kernel
theorem d_S_ask_170 : decode b_S_ask 170 = .ok (.iload_n 1, 1) := by decide +kernel
theorem d_S_ask_171 : decode b_S_ask 171 = .ok (.aload_n 0, 1) := by decide +kernel
theorem d_S_ask_172 : decode b_S_ask 172 = .ok (.getfield 10, 3) := by decide +kernel
theorem d_S_ask_175 : decode b_S_ask 175 = .ok (.getfield 85, 3) := by decide +kernel
theorem d_S_ask_178 : decode b_S_ask 178 = .ok (.iload_n 1, 1) := by decide +kernel
theorem d_S_ask_179 : decode b_S_ask 179 = .ok (.iaload, 1) := by decide +kernel
theorem d_S_ask_180 : decode b_S_ask 180 = .ok (.aload_n 0, 1) := by decide +kernel
theorem d_S_ask_181 : decode b_S_ask 181 = .ok (.iload_n 1, 1) := by decide +kernel
theorem d_S_ask_182 : decode b_S_ask 182 = .ok (.invokevirtual 88, 3) := by decide +kernel
theorem d_S_ask_185 : decode b_S_ask 185 = .ok (.invokevirtual 91, 3) := by decide +kernel
theorem d_S_ask_188 : decode b_S_ask 188 = .ok (.ireturn, 1) := by decide +kernel
theorem d_S_ask_189 : decode b_S_ask 189 = .ok (.aload_n 0, 1) := by decide +kernel
theorem d_S_ask_190 : decode b_S_ask 190 = .ok (.iload_n 1, 1) := by decide +kernel
theorem d_S_ask_191 : decode b_S_ask 191 = .ok (.invokevirtual 95, 3) := by decide +kernel
theorem d_S_ask_194 : decode b_S_ask 194 = .ok (.ireturn, 1) := by decide +kernel
theorem d_S_ask_195 : decode b_S_ask 195 = .ok (.aload_n 0, 1) := by decide +kernel
theorem d_S_ask_196 : decode b_S_ask 196 = .ok (.iload_n 1, 1) := by decide +kernel
theorem d_S_ask_197 : decode b_S_ask 197 = .ok (.invokevirtual 98, 3) := by decide +kernel
theorem d_S_ask_200 : decode b_S_ask 200 = .ok (.ireturn, 1) := by decide +kernel
theorem d_S_ask_201 : decode b_S_ask 201 = .ok (.aload_n 0, 1) := by decide +kernel
theorem d_S_ask_202 : decode b_S_ask 202 = .ok (.iload_n 1, 1) := by decide +kernel
theorem d_S_ask_203 : decode b_S_ask 203 = .ok (.invokevirtual 101, 3) := by decide +kernel
theorem d_S_ask_206 : decode b_S_ask 206 = .ok (.ireturn, 1) := by decide +kernel
theorem d_S_ask_207 : decode b_S_ask 207 = .ok (.aload_n 0, 1) := by decide +kernel
theorem d_S_ask_208 : decode b_S_ask 208 = .ok (.iload_n 1, 1) := by decide +kernel
theorem d_S_ask_209 : decode b_S_ask 209 = .ok (.invokevirtual 104, 3) := by decide +kernel
theorem d_S_ask_212 : decode b_S_ask 212 = .ok (.ireturn, 1) := by decide +kernel
theorem d_S_ask_213 : decode b_S_ask 213 = .ok (.aload_n 0, 1) := by decide +kernel
theorem d_S_ask_214 : decode b_S_ask 214 = .ok (.iload_n 1, 1) := by decide +kernel
theorem d_S_ask_215 : decode b_S_ask 215 = .ok (.invokevirtual 107, 3) := by decide +kernel
theorem d_S_ask_218 : decode b_S_ask 218 = .ok (.ireturn, 1) := by decide +kernel
theorem d_S_ask_219 : decode b_S_ask 219 = .ok (.aload_n 0, 1) := by decide +kernel
theorem d_S_ask_220 : decode b_S_ask 220 = .ok (.iload_n 1, 1) := by decide +kernel
theorem d_S_ask_221 : decode b_S_ask 221 = .ok (.invokevirtual 110, 3) := by decide +kernel
theorem d_S_ask_224 : decode b_S_ask 224 = .ok (.ireturn, 1) := by decide +kernel
theorem d_S_ask_225 : decode b_S_ask 225 = .ok (.aload_n 0, 1) := by decide +kernel
theorem d_S_ask_226 : decode b_S_ask 226 = .ok (.iload_n 1, 1) := by decide +kernel
theorem d_S_ask_227 : decode b_S_ask 227 = .ok (.invokevirtual 113, 3) := by decide +kernel
theorem d_S_ask_230 : decode b_S_ask 230 = .ok (.ireturn, 1) := by decide +kernel
theorem d_S_ask_231 : decode b_S_ask 231 = .ok (.iconst 0, 1) := by decide +kernel
theorem d_S_ask_232 : decode b_S_ask 232 = .ok (.ireturn, 1) := by decide +kernel
theorem d_S_give_0 : decode b_S_give 0 = .ok (.aload_n 0, 1) := by decide +kernel
theorem d_S_give_1 : decode b_S_give 1 = .ok (.getfield 20, 3) := by decide +kernel
theorem d_S_give_4 : decode b_S_give 4 = .ok (.iload_n 1, 1) := by decide +kernel
theorem d_S_give_5 : decode b_S_give 5 = .ok (.iload_n 2, 1) := by decide +kernel
theorem d_S_give_6 : decode b_S_give 6 = .ok (.iastore, 1) := by decide +kernel
theorem d_S_give_7 : decode b_S_give 7 = .ok (.iconst 1, 1) := by decide +kernel
theorem d_S_give_8 : decode b_S_give 8 = .ok (.ireturn, 1) := by decide +kernel
theorem d_S_giveForFuel_0 : decode b_S_giveForFuel 0 = .ok (.aload_n 0, 1) := by decide +kernel
theorem d_S_giveForFuel_1 : decode b_S_giveForFuel 1 = .ok (.getfield 37, 3) := by decide +kernel
theorem d_S_giveForFuel_4 : decode b_S_giveForFuel 4 = .ok (.aload_n 0, 1) := by decide +kernel
theorem d_S_giveForFuel_5 : decode b_S_giveForFuel 5 = .ok (.getfield 43, 3) := by decide +kernel
theorem d_S_giveForFuel_8 : decode b_S_giveForFuel 8 = .ok (.if_icmp .lt 6, 3) := by decide +kernel
theorem d_S_giveForFuel_11 : decode b_S_giveForFuel 11 = .ok (.bipush (-5), 2) := by decide +kernel
theorem d_S_giveForFuel_13 : decode b_S_giveForFuel 13 = .ok (.ireturn, 1) := by decide +kernel
theorem d_S_giveForFuel_14 : decode b_S_giveForFuel 14 = .ok (.aload_n 0, 1) := by decide +kernel
theorem d_S_giveForFuel_15 : decode b_S_giveForFuel 15 = .ok (.dup, 1) := by decide +kernel
theorem d_S_giveForFuel_16 : decode b_S_giveForFuel 16 = .ok (.getfield 37, 3) := by decide +kernel
theorem d_S_giveForFuel_19 : decode b_S_giveForFuel 19 = .ok (.iconst 1, 1) := by decide +kernel
theorem d_S_giveForFuel_20 : decode b_S_giveForFuel 20 = .ok (.iadd, 1) := by decide +kernel
theorem d_S_giveForFuel_21 : decode b_S_giveForFuel 21 = .ok (.putfield 37, 3) := by decide +kernel
theorem d_S_giveForFuel_24 : decode b_S_giveForFuel 24 = .ok (.aload_n 0, 1) := by decide +kernel
theorem d_S_giveForFuel_25 : decode b_S_giveForFuel 25 = .ok (.iload_n 1, 1) := by decide +kernel
theorem d_S_giveForFuel_26 : decode b_S_giveForFuel 26 = .ok (.iload_n 2, 1) := by decide +kernel
theorem d_S_giveForFuel_27 : decode b_S_giveForFuel 27 = .ok (.invokevirtual 116, 3) := by decide +kernel
theorem d_S_giveForFuel_30 : decode b_S_giveForFuel 30 = .ok (.ireturn, 1) := by decide +kernel
theorem d_S_handUp_0 : decode b_S_handUp 0 = .ok (.iload_n 3, 1) := by decide +kernel
theorem d_S_handUp_1 : decode b_S_handUp 1 = .ok (.iconst 1, 1) := by decide +kernel
theorem d_S_handUp_2 : decode b_S_handUp 2 = .ok (.if_icmp .ne 17, 3) := by decide +kernel
theorem d_S_handUp_5 : decode b_S_handUp 5 = .ok (.aload_n 0, 1) := by decide +kernel
theorem d_S_handUp_6 : decode b_S_handUp 6 = .ok (.iload_n 1, 1) := by decide +kernel
theorem d_S_handUp_7 : decode b_S_handUp 7 = .ok (.aload_n 0, 1) := by decide +kernel
theorem d_S_handUp_8 : decode b_S_handUp 8 = .ok (.getfield 20, 3) := by decide +kernel
theorem d_S_handUp_11 : decode b_S_handUp 11 = .ok (.iload_n 2, 1) := by decide +kernel
theorem d_S_handUp_12 : decode b_S_handUp 12 = .ok (.iaload, 1) := by decide +kernel
theorem d_S_handUp_13 : decode b_S_handUp 13 = .ok (.invokevirtual 116, 3) := by decide +kernel
theorem d_S_handUp_16 : decode b_S_handUp 16 = .ok (.goto 4, 3) := by decide +kernel
theorem d_S_handUp_19 : decode b_S_handUp 19 = .ok (.iload_n 3, 1) := by decide +kernel
theorem d_S_handUp_20 : decode b_S_handUp 20 = .ok (.ireturn, 1) := by decide +kernel
theorem d_S_askLeaf_0 : decode b_S_askLeaf 0 = .ok (.aload_n 0, 1) := by decide +kernel
theorem d_S_askLeaf_1 : decode b_S_askLeaf 1 = .ok (.getfield 16, 3) := by decide +kernel
theorem d_S_askLeaf_4 : decode b_S_askLeaf 4 = .ok (.iload_n 1, 1) := by decide +kernel
theorem d_S_askLeaf_5 : decode b_S_askLeaf 5 = .ok (.iaload, 1) := by decide +kernel
theorem d_S_askLeaf_6 : decode b_S_askLeaf 6 = .ok (.ifCond .eq 5, 3) := by decide +kernel
theorem d_S_askLeaf_9 : decode b_S_askLeaf 9 = .ok (.iconst 0, 1) := by decide +kernel
theorem d_S_askLeaf_10 : decode b_S_askLeaf 10 = .ok (.ireturn, 1) := by decide +kernel
theorem d_S_askLeaf_11 : decode b_S_askLeaf 11 = .ok (.aload_n 0, 1) := by decide +kernel
theorem d_S_askLeaf_12 : decode b_S_askLeaf 12 = .ok (.getfield 16, 3) := by decide +kernel
theorem d_S_askLeaf_15 : decode b_S_askLeaf 15 = .ok (.iload_n 1, 1) := by decide +kernel
theorem d_S_askLeaf_16 : decode b_S_askLeaf 16 = .ok (.iconst 5, 1) := by decide +kernel
theorem d_S_askLeaf_17 : decode b_S_askLeaf 17 = .ok (.iastore, 1) := by decide +kernel
theorem d_S_askLeaf_18 : decode b_S_askLeaf 18 = .ok (.aload_n 0, 1) := by decide +kernel
theorem d_S_askLeaf_19 : decode b_S_askLeaf 19 = .ok (.iload_n 1, 1) := by decide +kernel
theorem d_S_askLeaf_20 : decode b_S_askLeaf 20 = .ok (.iload_n 2, 1) := by decide +kernel
theorem d_S_askLeaf_21 : decode b_S_askLeaf 21 = .ok (.invokevirtual 119, 3) := by decide +kernel
theorem d_S_askLeaf_24 : decode b_S_askLeaf 24 = .ok (.ireturn, 1) := by decide +kernel
theorem d_S_askX_0 : decode b_S_askX 0 = .ok (.aload_n 0, 1) := by decide +kernel
theorem d_S_askX_1 : decode b_S_askX 1 = .ok (.getfield 16, 3) := by decide +kernel
theorem d_S_askX_4 : decode b_S_askX 4 = .ok (.iload_n 1, 1) := by decide +kernel
theorem d_S_askX_5 : decode b_S_askX 5 = .ok (.iaload, 1) := by decide +kernel
theorem d_S_askX_6 : decode b_S_askX 6 = .ok (.ifCond .ne 16, 3) := by decide +kernel
theorem d_S_askX_9 : decode b_S_askX 9 = .ok (.aload_n 0, 1) := by decide +kernel
theorem d_S_askX_10 : decode b_S_askX 10 = .ok (.aload_n 0, 1) := by decide +kernel
theorem d_S_askX_11 : decode b_S_askX 11 = .ok (.getfield 10, 3) := by decide +kernel
theorem d_S_askX_14 : decode b_S_askX 14 = .ok (.getfield 122, 3) := by decide +kernel
theorem d_S_askX_17 : decode b_S_askX 17 = .ok (.iload_n 1, 1) := by decide +kernel
theorem d_S_askX_18 : decode b_S_askX 18 = .ok (.iaload, 1) := by decide +kernel
theorem d_S_askX_19 : decode b_S_askX 19 = .ok (.invokevirtual 52, 3) := by decide +kernel
theorem d_S_askX_22 : decode b_S_askX 22 = .ok (.aload_n 0, 1) := by decide +kernel
theorem d_S_askX_23 : decode b_S_askX 23 = .ok (.getfield 16, 3) := by decide +kernel
theorem d_S_askX_26 : decode b_S_askX 26 = .ok (.iload_n 1, 1) := by decide +kernel
theorem d_S_askX_27 : decode b_S_askX 27 = .ok (.iconst 1, 1) := by decide +kernel
theorem d_S_askX_28 : decode b_S_askX 28 = .ok (.iastore, 1) := by decide +kernel
theorem d_S_askX_29 : decode b_S_askX 29 = .ok (.aload_n 0, 1) := by decide +kernel
theorem d_S_askX_30 : decode b_S_askX 30 = .ok (.aload_n 0, 1) := by decide +kernel
theorem d_S_askX_31 : decode b_S_askX 31 = .ok (.getfield 10, 3) := by decide +kernel
theorem d_S_askX_34 : decode b_S_askX 34 = .ok (.getfield 122, 3) := by decide +kernel
theorem d_S_askX_37 : decode b_S_askX 37 = .ok (.iload_n 1, 1) := by decide +kernel
theorem d_S_askX_38 : decode b_S_askX 38 = .ok (.iaload, 1) := by decide +kernel
theorem d_S_askX_39 : decode b_S_askX 39 = .ok (.invokevirtual 56, 3) := by decide +kernel
theorem d_S_askX_42 : decode b_S_askX 42 = .ok (.ireturn, 1) := by decide +kernel
theorem d_S_askAssign_0 : decode b_S_askAssign 0 = .ok (.aload_n 0, 1) := by decide +kernel
theorem d_S_askAssign_1 : decode b_S_askAssign 1 = .ok (.iload_n 1, 1) := by decide +kernel
theorem d_S_askAssign_2 : decode b_S_askAssign 2 = .ok (.aload_n 0, 1) := by decide +kernel
theorem d_S_askAssign_3 : decode b_S_askAssign 3 = .ok (.getfield 10, 3) := by decide +kernel
theorem d_S_askAssign_6 : decode b_S_askAssign 6 = .ok (.getfield 122, 3) := by decide +kernel
theorem d_S_askAssign_9 : decode b_S_askAssign 9 = .ok (.iload_n 1, 1) := by decide +kernel
theorem d_S_askAssign_10 : decode b_S_askAssign 10 = .ok (.iaload, 1) := by decide +kernel
theorem d_S_askAssign_11 : decode b_S_askAssign 11 = .ok (.aload_n 0, 1) := by decide +kernel
theorem d_S_askAssign_12 : decode b_S_askAssign 12 = .ok (.iload_n 1, 1) := by decide +kernel
theorem d_S_askAssign_13 : decode b_S_askAssign 13 = .ok (.invokevirtual 125, 3) := by decide +kernel
theorem d_S_askAssign_16 : decode b_S_askAssign 16 = .ok (.invokevirtual 91, 3) := by decide +kernel
theorem d_S_askAssign_19 : decode b_S_askAssign 19 = .ok (.istore_n 2, 1) := by decide +kernel
theorem d_S_askAssign_20 : decode b_S_askAssign 20 = .ok (.iload_n 2, 1) := by decide +kernel
theorem d_S_askAssign_21 : decode b_S_askAssign 21 = .ok (.iconst 1, 1) := by decide +kernel
theorem d_S_askAssign_22 : decode b_S_askAssign 22 = .ok (.if_icmp .ne 23, 3) := by decide +kernel
theorem d_S_askAssign_25 : decode b_S_askAssign 25 = .ok (.aload_n 0, 1) := by decide +kernel
theorem d_S_askAssign_26 : decode b_S_askAssign 26 = .ok (.getfield 27, 3) := by decide +kernel
theorem d_S_askAssign_29 : decode b_S_askAssign 29 = .ok (.aload_n 0, 1) := by decide +kernel
theorem d_S_askAssign_30 : decode b_S_askAssign 30 = .ok (.getfield 10, 3) := by decide +kernel
theorem d_S_askAssign_33 : decode b_S_askAssign 33 = .ok (.getfield 63, 3) := by decide +kernel
theorem d_S_askAssign_36 : decode b_S_askAssign 36 = .ok (.iload_n 1, 1) := by decide +kernel
theorem d_S_askAssign_37 : decode b_S_askAssign 37 = .ok (.iaload, 1) := by decide +kernel
theorem d_S_askAssign_38 : decode b_S_askAssign 38 = .ok (.aload_n 0, 1) := by decide +kernel
theorem d_S_askAssign_39 : decode b_S_askAssign 39 = .ok (.getfield 20, 3) := by decide +kernel
theorem d_S_askAssign_42 : decode b_S_askAssign 42 = .ok (.iload_n 1, 1) := by decide +kernel
theorem d_S_askAssign_43 : decode b_S_askAssign 43 = .ok (.iaload, 1) := by decide +kernel
theorem d_S_askAssign_44 : decode b_S_askAssign 44 = .ok (.iastore, 1) := by decide +kernel
theorem d_S_askAssign_45 : decode b_S_askAssign 45 = .ok (.iload_n 2, 1) := by decide +kernel
theorem d_S_askAssign_46 : decode b_S_askAssign 46 = .ok (.ireturn, 1) := by decide +kernel
theorem d_S_askWrite_0 : decode b_S_askWrite 0 = .ok (.aload_n 0, 1) := by decide +kernel
theorem d_S_askWrite_1 : decode b_S_askWrite 1 = .ok (.iload_n 1, 1) := by decide +kernel
theorem d_S_askWrite_2 : decode b_S_askWrite 2 = .ok (.aload_n 0, 1) := by decide +kernel
theorem d_S_askWrite_3 : decode b_S_askWrite 3 = .ok (.getfield 10, 3) := by decide +kernel
theorem d_S_askWrite_6 : decode b_S_askWrite 6 = .ok (.getfield 122, 3) := by decide +kernel
theorem d_S_askWrite_9 : decode b_S_askWrite 9 = .ok (.iload_n 1, 1) := by decide +kernel
theorem d_S_askWrite_10 : decode b_S_askWrite 10 = .ok (.iaload, 1) := by decide +kernel
theorem d_S_askWrite_11 : decode b_S_askWrite 11 = .ok (.aload_n 0, 1) := by decide +kernel
theorem d_S_askWrite_12 : decode b_S_askWrite 12 = .ok (.iload_n 1, 1) := by decide +kernel
theorem d_S_askWrite_13 : decode b_S_askWrite 13 = .ok (.invokevirtual 125, 3) := by decide +kernel
theorem d_S_askWrite_16 : decode b_S_askWrite 16 = .ok (.invokevirtual 91, 3) := by decide +kernel
theorem d_S_askWrite_19 : decode b_S_askWrite 19 = .ok (.istore_n 2, 1) := by decide +kernel
theorem d_S_askWrite_20 : decode b_S_askWrite 20 = .ok (.iload_n 2, 1) := by decide +kernel
theorem d_S_askWrite_21 : decode b_S_askWrite 21 = .ok (.iconst 1, 1) := by decide +kernel
theorem d_S_askWrite_22 : decode b_S_askWrite 22 = .ok (.if_icmp .eq 5, 3) := by decide +kernel
theorem d_S_askWrite_25 : decode b_S_askWrite 25 = .ok (.iload_n 2, 1) := by decide +kernel
theorem d_S_askWrite_26 : decode b_S_askWrite 26 = .ok (.ireturn, 1) := by decide +kernel
theorem d_S_askWrite_27 : decode b_S_askWrite 27 = .ok (.aload_n 0, 1) := by decide +kernel
theorem d_S_askWrite_28 : decode b_S_askWrite 28 = .ok (.getfield 33, 3) := by decide +kernel
theorem d_S_askWrite_31 : decode b_S_askWrite 31 = .ok (.bipush 32, 2) := by decide +kernel
theorem d_S_askWrite_33 : decode b_S_askWrite 33 = .ok (.if_icmp .lt 6, 3) := by decide +kernel
theorem d_S_askWrite_36 : decode b_S_askWrite 36 = .ok (.bipush (-6), 2) := by decide +kernel
theorem d_S_askWrite_38 : decode b_S_askWrite 38 = .ok (.ireturn, 1) := by decide +kernel
theorem d_S_askWrite_39 : decode b_S_askWrite 39 = .ok (.aload_n 0, 1) := by decide +kernel
theorem d_S_askWrite_40 : decode b_S_askWrite 40 = .ok (.getfield 30, 3) := by decide +kernel
theorem d_S_askWrite_43 : decode b_S_askWrite 43 = .ok (.aload_n 0, 1) := by decide +kernel
theorem d_S_askWrite_44 : decode b_S_askWrite 44 = .ok (.getfield 33, 3) := by decide +kernel
theorem d_S_askWrite_47 : decode b_S_askWrite 47 = .ok (.aload_n 0, 1) := by decide +kernel
theorem d_S_askWrite_48 : decode b_S_askWrite 48 = .ok (.getfield 20, 3) := by decide +kernel
theorem d_S_askWrite_51 : decode b_S_askWrite 51 = .ok (.iload_n 1, 1) := by decide +kernel
theorem d_S_askWrite_52 : decode b_S_askWrite 52 = .ok (.iaload, 1) := by decide +kernel
theorem d_S_askWrite_53 : decode b_S_askWrite 53 = .ok (.iastore, 1) := by decide +kernel
theorem d_S_askWrite_54 : decode b_S_askWrite 54 = .ok (.aload_n 0, 1) := by decide +kernel
theorem d_S_askWrite_55 : decode b_S_askWrite 55 = .ok (.dup, 1) := by decide +kernel
theorem d_S_askWrite_56 : decode b_S_askWrite 56 = .ok (.getfield 33, 3) := by decide +kernel
theorem d_S_askWrite_59 : decode b_S_askWrite 59 = .ok (.iconst 1, 1) := by decide +kernel
theorem d_S_askWrite_60 : decode b_S_askWrite 60 = .ok (.iadd, 1) := by decide +kernel
theorem d_S_askWrite_61 : decode b_S_askWrite 61 = .ok (.putfield 33, 3) := by decide +kernel
theorem d_S_askWrite_64 : decode b_S_askWrite 64 = .ok (.iconst 1, 1) := by decide +kernel
theorem d_S_askWrite_65 : decode b_S_askWrite 65 = .ok (.ireturn, 1) := by decide +kernel
theorem d_S_askNot_0 : decode b_S_askNot 0 = .ok (.aload_n 0, 1) := by decide +kernel
theorem d_S_askNot_1 : decode b_S_askNot 1 = .ok (.getfield 16, 3) := by decide +kernel
theorem d_S_askNot_4 : decode b_S_askNot 4 = .ok (.iload_n 1, 1) := by decide +kernel
theorem d_S_askNot_5 : decode b_S_askNot 5 = .ok (.iaload, 1) := by decide +kernel
theorem d_S_askNot_6 : decode b_S_askNot 6 = .ok (.ifCond .eq 5, 3) := by decide +kernel
theorem d_S_askNot_9 : decode b_S_askNot 9 = .ok (.iconst 0, 1) := by decide +kernel
theorem d_S_askNot_10 : decode b_S_askNot 10 = .ok (.ireturn, 1) := by decide +kernel
theorem d_S_askNot_11 : decode b_S_askNot 11 = .ok (.aload_n 0, 1) := by decide +kernel
theorem d_S_askNot_12 : decode b_S_askNot 12 = .ok (.getfield 16, 3) := by decide +kernel
theorem d_S_askNot_15 : decode b_S_askNot 15 = .ok (.iload_n 1, 1) := by decide +kernel
theorem d_S_askNot_16 : decode b_S_askNot 16 = .ok (.iconst 5, 1) := by decide +kernel
theorem d_S_askNot_17 : decode b_S_askNot 17 = .ok (.iastore, 1) := by decide +kernel
theorem d_S_askNot_18 : decode b_S_askNot 18 = .ok (.aload_n 0, 1) := by decide +kernel
theorem d_S_askNot_19 : decode b_S_askNot 19 = .ok (.aload_n 0, 1) := by decide +kernel
theorem d_S_askNot_20 : decode b_S_askNot 20 = .ok (.getfield 10, 3) := by decide +kernel
theorem d_S_askNot_23 : decode b_S_askNot 23 = .ok (.getfield 122, 3) := by decide +kernel
theorem d_S_askNot_26 : decode b_S_askNot 26 = .ok (.iload_n 1, 1) := by decide +kernel
theorem d_S_askNot_27 : decode b_S_askNot 27 = .ok (.iaload, 1) := by decide +kernel
theorem d_S_askNot_28 : decode b_S_askNot 28 = .ok (.invokevirtual 128, 3) := by decide +kernel
theorem d_S_askNot_31 : decode b_S_askNot 31 = .ok (.istore_n 2, 1) := by decide +kernel
theorem d_S_askNot_32 : decode b_S_askNot 32 = .ok (.iload_n 2, 1) := by decide +kernel
theorem d_S_askNot_33 : decode b_S_askNot 33 = .ok (.iconst 1, 1) := by decide +kernel
theorem d_S_askNot_34 : decode b_S_askNot 34 = .ok (.if_icmp .ne 5, 3) := by decide +kernel
theorem d_S_askNot_37 : decode b_S_askNot 37 = .ok (.iconst 0, 1) := by decide +kernel
theorem d_S_askNot_38 : decode b_S_askNot 38 = .ok (.ireturn, 1) := by decide +kernel
theorem d_S_askNot_39 : decode b_S_askNot 39 = .ok (.iload_n 2, 1) := by decide +kernel
theorem d_S_askNot_40 : decode b_S_askNot 40 = .ok (.ifCond .ne 12, 3) := by decide +kernel
theorem d_S_askNot_43 : decode b_S_askNot 43 = .ok (.aload_n 0, 1) := by decide +kernel
theorem d_S_askNot_44 : decode b_S_askNot 44 = .ok (.iload_n 1, 1) := by decide +kernel
theorem d_S_askNot_45 : decode b_S_askNot 45 = .ok (.iconst 0, 1) := by decide +kernel
theorem d_S_askNot_46 : decode b_S_askNot 46 = .ok (.invokevirtual 116, 3) := by decide +kernel
theorem d_S_askNot_49 : decode b_S_askNot 49 = .ok (.goto 4, 3) := by decide +kernel
theorem d_S_askNot_52 : decode b_S_askNot 52 = .ok (.iload_n 2, 1) := by decide +kernel
theorem d_S_askNot_53 : decode b_S_askNot 53 = .ok (.ireturn, 1) := by decide +kernel
theorem d_S_askAgain_0 : decode b_S_askAgain 0 = .ok (.aload_n 0, 1) := by decide +kernel
theorem d_S_askAgain_1 : decode b_S_askAgain 1 = .ok (.getfield 10, 3) := by decide +kernel
theorem d_S_askAgain_4 : decode b_S_askAgain 4 = .ok (.getfield 122, 3) := by decide +kernel
theorem d_S_askAgain_7 : decode b_S_askAgain 7 = .ok (.iload_n 1, 1) := by decide +kernel
theorem d_S_askAgain_8 : decode b_S_askAgain 8 = .ok (.iaload, 1) := by decide +kernel
theorem d_S_askAgain_9 : decode b_S_askAgain 9 = .ok (.istore_n 2, 1) := by decide +kernel
theorem d_S_askAgain_10 : decode b_S_askAgain 10 = .ok (.aload_n 0, 1) := by decide +kernel
theorem d_S_askAgain_11 : decode b_S_askAgain 11 = .ok (.getfield 16, 3) := by decide +kernel
theorem d_S_askAgain_14 : decode b_S_askAgain 14 = .ok (.iload_n 1, 1) := by decide +kernel
theorem d_S_askAgain_15 : decode b_S_askAgain 15 = .ok (.iaload, 1) := by decide +kernel
theorem d_S_askAgain_16 : decode b_S_askAgain 16 = .ok (.ifCond .eq 7, 3) := by decide +kernel
theorem d_S_askAgain_19 : decode b_S_askAgain 19 = .ok (.iconst 1, 1) := by decide +kernel
theorem d_S_askAgain_20 : decode b_S_askAgain 20 = .ok (.goto 4, 3) := by decide +kernel
theorem d_S_askAgain_23 : decode b_S_askAgain 23 = .ok (.iconst 0, 1) := by decide +kernel
theorem d_S_askAgain_24 : decode b_S_askAgain 24 = .ok (.istore_n 3, 1) := by decide +kernel
theorem d_S_askAgain_25 : decode b_S_askAgain 25 = .ok (.aload_n 0, 1) := by decide +kernel
theorem d_S_askAgain_26 : decode b_S_askAgain 26 = .ok (.iload_n 1, 1) := by decide +kernel
theorem d_S_askAgain_27 : decode b_S_askAgain 27 = .ok (.invokevirtual 125, 3) := by decide +kernel
theorem d_S_askAgain_30 : decode b_S_askAgain 30 = .ok (.istore 4, 2) := by decide +kernel
theorem d_S_askAgain_32 : decode b_S_askAgain 32 = .ok (.iload 4, 2) := by decide +kernel
theorem d_S_askAgain_34 : decode b_S_askAgain 34 = .ok (.ifCond .ne 14, 3) := by decide +kernel
theorem d_S_askAgain_37 : decode b_S_askAgain 37 = .ok (.iload_n 3, 1) := by decide +kernel
theorem d_S_askAgain_38 : decode b_S_askAgain 38 = .ok (.ifCond .eq 10, 3) := by decide +kernel
theorem d_S_askAgain_41 : decode b_S_askAgain 41 = .ok (.aload_n 0, 1) := by decide +kernel
theorem d_S_askAgain_42 : decode b_S_askAgain 42 = .ok (.iload_n 2, 1) := by decide +kernel
theorem d_S_askAgain_43 : decode b_S_askAgain 43 = .ok (.invokevirtual 128, 3) := by decide +kernel
theorem d_S_askAgain_46 : decode b_S_askAgain 46 = .ok (.istore 4, 2) := by decide +kernel
theorem d_S_askAgain_48 : decode b_S_askAgain 48 = .ok (.aload_n 0, 1) := by decide +kernel
theorem d_S_askAgain_49 : decode b_S_askAgain 49 = .ok (.iload_n 1, 1) := by decide +kernel
theorem d_S_askAgain_50 : decode b_S_askAgain 50 = .ok (.iload_n 2, 1) := by decide +kernel
theorem d_S_askAgain_51 : decode b_S_askAgain 51 = .ok (.iload 4, 2) := by decide +kernel
theorem d_S_askAgain_53 : decode b_S_askAgain 53 = .ok (.invokevirtual 91, 3) := by decide +kernel
theorem d_S_askAgain_56 : decode b_S_askAgain 56 = .ok (.ireturn, 1) := by decide +kernel
theorem d_S_askEither_0 : decode b_S_askEither 0 = .ok (.aload_n 0, 1) := by decide +kernel
theorem d_S_askEither_1 : decode b_S_askEither 1 = .ok (.getfield 10, 3) := by decide +kernel
theorem d_S_askEither_4 : decode b_S_askEither 4 = .ok (.getfield 85, 3) := by decide +kernel
theorem d_S_askEither_7 : decode b_S_askEither 7 = .ok (.iload_n 1, 1) := by decide +kernel
theorem d_S_askEither_8 : decode b_S_askEither 8 = .ok (.iaload, 1) := by decide +kernel
theorem d_S_askEither_9 : decode b_S_askEither 9 = .ok (.istore_n 2, 1) := by decide +kernel
theorem d_S_askEither_10 : decode b_S_askEither 10 = .ok (.aload_n 0, 1) := by decide +kernel
theorem d_S_askEither_11 : decode b_S_askEither 11 = .ok (.getfield 16, 3) := by decide +kernel
theorem d_S_askEither_14 : decode b_S_askEither 14 = .ok (.iload_n 1, 1) := by decide +kernel
theorem d_S_askEither_15 : decode b_S_askEither 15 = .ok (.iaload, 1) := by decide +kernel
theorem d_S_askEither_16 : decode b_S_askEither 16 = .ok (.iconst 2, 1) := by decide +kernel
theorem d_S_askEither_17 : decode b_S_askEither 17 = .ok (.if_icmp .eq 41, 3) := by decide +kernel
theorem d_S_askEither_20 : decode b_S_askEither 20 = .ok (.aload_n 0, 1) := by decide +kernel
theorem d_S_askEither_21 : decode b_S_askEither 21 = .ok (.iload_n 1, 1) := by decide +kernel
theorem d_S_askEither_22 : decode b_S_askEither 22 = .ok (.invokevirtual 125, 3) := by decide +kernel
theorem d_S_askEither_25 : decode b_S_askEither 25 = .ok (.istore_n 3, 1) := by decide +kernel
theorem d_S_askEither_26 : decode b_S_askEither 26 = .ok (.iload_n 3, 1) := by decide +kernel
theorem d_S_askEither_27 : decode b_S_askEither 27 = .ok (.ifCond .eq 19, 3) := by decide +kernel
theorem d_S_askEither_30 : decode b_S_askEither 30 = .ok (.aload_n 0, 1) := by decide +kernel
theorem d_S_askEither_31 : decode b_S_askEither 31 = .ok (.iload_n 1, 1) := by decide +kernel
theorem d_S_askEither_32 : decode b_S_askEither 32 = .ok (.aload_n 0, 1) := by decide +kernel
theorem d_S_askEither_33 : decode b_S_askEither 33 = .ok (.getfield 10, 3) := by decide +kernel
theorem d_S_askEither_36 : decode b_S_askEither 36 = .ok (.getfield 122, 3) := by decide +kernel
theorem d_S_askEither_39 : decode b_S_askEither 39 = .ok (.iload_n 1, 1) := by decide +kernel
theorem d_S_askEither_40 : decode b_S_askEither 40 = .ok (.iaload, 1) := by decide +kernel
theorem d_S_askEither_41 : decode b_S_askEither 41 = .ok (.iload_n 3, 1) := by decide +kernel
theorem d_S_askEither_42 : decode b_S_askEither 42 = .ok (.invokevirtual 91, 3) := by decide +kernel
theorem d_S_askEither_45 : decode b_S_askEither 45 = .ok (.ireturn, 1) := by decide +kernel
theorem d_S_askEither_46 : decode b_S_askEither 46 = .ok (.aload_n 0, 1) := by decide +kernel
theorem d_S_askEither_47 : decode b_S_askEither 47 = .ok (.getfield 16, 3) := by decide +kernel
theorem d_S_askEither_50 : decode b_S_askEither 50 = .ok (.iload_n 1, 1) := by decide +kernel
theorem d_S_askEither_51 : decode b_S_askEither 51 = .ok (.iconst 2, 1) := by decide +kernel
theorem d_S_askEither_52 : decode b_S_askEither 52 = .ok (.iastore, 1) := by decide +kernel
theorem d_S_askEither_53 : decode b_S_askEither 53 = .ok (.aload_n 0, 1) := by decide +kernel
theorem d_S_askEither_54 : decode b_S_askEither 54 = .ok (.iload_n 2, 1) := by decide +kernel
theorem d_S_askEither_55 : decode b_S_askEither 55 = .ok (.invokevirtual 52, 3) := by decide +kernel
theorem d_S_askEither_58 : decode b_S_askEither 58 = .ok (.aload_n 0, 1) := by decide +kernel
theorem d_S_askEither_59 : decode b_S_askEither 59 = .ok (.iload_n 1, 1) := by decide +kernel
theorem d_S_askEither_60 : decode b_S_askEither 60 = .ok (.iload_n 2, 1) := by decide +kernel
theorem d_S_askEither_61 : decode b_S_askEither 61 = .ok (.aload_n 0, 1) := by decide +kernel
theorem d_S_askEither_62 : decode b_S_askEither 62 = .ok (.iload_n 2, 1) := by decide +kernel
theorem d_S_askEither_63 : decode b_S_askEither 63 = .ok (.invokevirtual 56, 3) := by decide +kernel
theorem d_S_askEither_66 : decode b_S_askEither 66 = .ok (.invokevirtual 91, 3) := by decide +kernel
theorem d_S_askEither_69 : decode b_S_askEither 69 = .ok (.ireturn, 1) := by decide +kernel
theorem d_S_askPair_0 : decode b_S_askPair 0 = .ok (.aload_n 0, 1) := by decide +kernel
theorem d_S_askPair_1 : decode b_S_askPair 1 = .ok (.getfield 10, 3) := by decide +kernel
theorem d_S_askPair_4 : decode b_S_askPair 4 = .ok (.getfield 85, 3) := by decide +kernel
theorem d_S_askPair_7 : decode b_S_askPair 7 = .ok (.iload_n 1, 1) := by decide +kernel
theorem d_S_askPair_8 : decode b_S_askPair 8 = .ok (.iaload, 1) := by decide +kernel
theorem d_S_askPair_9 : decode b_S_askPair 9 = .ok (.istore_n 2, 1) := by decide +kernel
theorem d_S_askPair_10 : decode b_S_askPair 10 = .ok (.iconst 0, 1) := by decide +kernel
theorem d_S_askPair_11 : decode b_S_askPair 11 = .ok (.istore_n 3, 1) := by decide +kernel
theorem d_S_askPair_12 : decode b_S_askPair 12 = .ok (.iload_n 3, 1) := by decide +kernel
theorem d_S_askPair_13 : decode b_S_askPair 13 = .ok (.ldc 131, 2) := by decide +kernel
theorem d_S_askPair_15 : decode b_S_askPair 15 = .ok (.if_icmp .ge 69, 3) := by decide +kernel
theorem d_S_askPair_18 : decode b_S_askPair 18 = .ok (.aload_n 0, 1) := by decide +kernel
theorem d_S_askPair_19 : decode b_S_askPair 19 = .ok (.getfield 16, 3) := by decide +kernel
theorem d_S_askPair_22 : decode b_S_askPair 22 = .ok (.iload_n 1, 1) := by decide +kernel
theorem d_S_askPair_23 : decode b_S_askPair 23 = .ok (.iaload, 1) := by decide +kernel
theorem d_S_askPair_24 : decode b_S_askPair 24 = .ok (.iconst 2, 1) := by decide +kernel
theorem d_S_askPair_25 : decode b_S_askPair 25 = .ok (.if_icmp .eq 31, 3) := by decide +kernel
theorem d_S_askPair_28 : decode b_S_askPair 28 = .ok (.aload_n 0, 1) := by decide +kernel
theorem d_S_askPair_29 : decode b_S_askPair 29 = .ok (.iload_n 1, 1) := by decide +kernel
theorem d_S_askPair_30 : decode b_S_askPair 30 = .ok (.invokevirtual 125, 3) := by decide +kernel
theorem d_S_askPair_33 : decode b_S_askPair 33 = .ok (.istore 4, 2) := by decide +kernel
theorem d_S_askPair_35 : decode b_S_askPair 35 = .ok (.iload 4, 2) := by decide +kernel
theorem d_S_askPair_37 : decode b_S_askPair 37 = .ok (.iconst 1, 1) := by decide +kernel
theorem d_S_askPair_38 : decode b_S_askPair 38 = .ok (.if_icmp .eq 6, 3) := by decide +kernel
theorem d_S_askPair_41 : decode b_S_askPair 41 = .ok (.iload 4, 2) := by decide +kernel
theorem d_S_askPair_43 : decode b_S_askPair 43 = .ok (.ireturn, 1) := by decide +kernel
theorem d_S_askPair_44 : decode b_S_askPair 44 = .ok (.aload_n 0, 1) := by decide +kernel
theorem d_S_askPair_45 : decode b_S_askPair 45 = .ok (.getfield 16, 3) := by decide +kernel
theorem d_S_askPair_48 : decode b_S_askPair 48 = .ok (.iload_n 1, 1) := by decide +kernel
theorem d_S_askPair_49 : decode b_S_askPair 49 = .ok (.iconst 2, 1) := by decide +kernel
theorem d_S_askPair_50 : decode b_S_askPair 50 = .ok (.iastore, 1) := by decide +kernel
theorem d_S_askPair_51 : decode b_S_askPair 51 = .ok (.aload_n 0, 1) := by decide +kernel
theorem d_S_askPair_52 : decode b_S_askPair 52 = .ok (.iload_n 2, 1) := by decide +kernel
theorem d_S_askPair_53 : decode b_S_askPair 53 = .ok (.invokevirtual 52, 3) := by decide +kernel
theorem d_S_askPair_56 : decode b_S_askPair 56 = .ok (.aload_n 0, 1) := by decide +kernel
theorem d_S_askPair_57 : decode b_S_askPair 57 = .ok (.iload_n 2, 1) := by decide +kernel
theorem d_S_askPair_58 : decode b_S_askPair 58 = .ok (.invokevirtual 56, 3) := by decide +kernel
theorem d_S_askPair_61 : decode b_S_askPair 61 = .ok (.istore 4, 2) := by decide +kernel
theorem d_S_askPair_63 : decode b_S_askPair 63 = .ok (.iload 4, 2) := by decide +kernel
theorem d_S_askPair_65 : decode b_S_askPair 65 = .ok (.ifCond .eq 6, 3) := by decide +kernel
theorem d_S_askPair_68 : decode b_S_askPair 68 = .ok (.iload 4, 2) := by decide +kernel
theorem d_S_askPair_70 : decode b_S_askPair 70 = .ok (.ireturn, 1) := by decide +kernel
theorem d_S_askPair_71 : decode b_S_askPair 71 = .ok (.aload_n 0, 1) := by decide +kernel
theorem d_S_askPair_72 : decode b_S_askPair 72 = .ok (.getfield 16, 3) := by decide +kernel
theorem d_S_askPair_75 : decode b_S_askPair 75 = .ok (.iload_n 1, 1) := by decide +kernel
theorem d_S_askPair_76 : decode b_S_askPair 76 = .ok (.iconst 1, 1) := by decide +kernel
theorem d_S_askPair_77 : decode b_S_askPair 77 = .ok (.iastore, 1) := by decide +kernel
theorem d_S_askPair_78 : decode b_S_askPair 78 = .ok (.iinc 3 1, 3) := by decide +kernel
theorem d_S_askPair_81 : decode b_S_askPair 81 = .ok (.goto (-69), 3) := by decide +kernel
theorem d_S_askPair_84 : decode b_S_askPair 84 = .ok (.iconst 0, 1) := by decide +kernel
theorem d_S_askPair_85 : decode b_S_askPair 85 = .ok (.ireturn, 1) := by decide +kernel
theorem d_S_askArithmetic_0 : decode b_S_askArithmetic 0 = .ok (.aload_n 0, 1) := by decide +kernel
theorem d_S_askArithmetic_1 : decode b_S_askArithmetic 1 = .ok (.iload_n 1, 1) := by decide +kernel
theorem d_S_askArithmetic_2 : decode b_S_askArithmetic 2 = .ok (.invokevirtual 88, 3) := by decide +kernel
theorem d_S_askArithmetic_5 : decode b_S_askArithmetic 5 = .ok (.istore_n 2, 1) := by decide +kernel
theorem d_S_askArithmetic_6 : decode b_S_askArithmetic 6 = .ok (.iload_n 2, 1) := by decide +kernel
theorem d_S_askArithmetic_7 : decode b_S_askArithmetic 7 = .ok (.iconst 1, 1) := by decide +kernel
theorem d_S_askArithmetic_8 : decode b_S_askArithmetic 8 = .ok (.if_icmp .eq 5, 3) := by decide +kernel
theorem d_S_askArithmetic_11 : decode b_S_askArithmetic 11 = .ok (.iload_n 2, 1) := by decide +kernel
theorem d_S_askArithmetic_12 : decode b_S_askArithmetic 12 = .ok (.ireturn, 1) := by decide +kernel
theorem d_S_askArithmetic_13 : decode b_S_askArithmetic 13 = .ok (.aload_n 0, 1) := by decide +kernel
theorem d_S_askArithmetic_14 : decode b_S_askArithmetic 14 = .ok (.getfield 10, 3) := by decide +kernel
theorem d_S_askArithmetic_17 : decode b_S_askArithmetic 17 = .ok (.getfield 60, 3) := by decide +kernel
theorem d_S_askArithmetic_20 : decode b_S_askArithmetic 20 = .ok (.iload_n 1, 1) := by decide +kernel
theorem d_S_askArithmetic_21 : decode b_S_askArithmetic 21 = .ok (.iaload, 1) := by decide +kernel
theorem d_S_askArithmetic_22 : decode b_S_askArithmetic 22 = .ok (.aload_n 0, 1) := by decide +kernel
theorem d_S_askArithmetic_23 : decode b_S_askArithmetic 23 = .ok (.getfield 20, 3) := by decide +kernel
theorem d_S_askArithmetic_26 : decode b_S_askArithmetic 26 = .ok (.aload_n 0, 1) := by decide +kernel
theorem d_S_askArithmetic_27 : decode b_S_askArithmetic 27 = .ok (.getfield 10, 3) := by decide +kernel
theorem d_S_askArithmetic_30 : decode b_S_askArithmetic 30 = .ok (.getfield 122, 3) := by decide +kernel
theorem d_S_askArithmetic_33 : decode b_S_askArithmetic 33 = .ok (.iload_n 1, 1) := by decide +kernel
theorem d_S_askArithmetic_34 : decode b_S_askArithmetic 34 = .ok (.iaload, 1) := by decide +kernel
theorem d_S_askArithmetic_35 : decode b_S_askArithmetic 35 = .ok (.iaload, 1) := by decide +kernel
theorem d_S_askArithmetic_36 : decode b_S_askArithmetic 36 = .ok (.i2l, 1) := by decide +kernel
theorem d_S_askArithmetic_37 : decode b_S_askArithmetic 37 = .ok (.aload_n 0, 1) := by decide +kernel
theorem d_S_askArithmetic_38 : decode b_S_askArithmetic 38 = .ok (.getfield 20, 3) := by decide +kernel
theorem d_S_askArithmetic_41 : decode b_S_askArithmetic 41 = .ok (.aload_n 0, 1) := by decide +kernel
theorem d_S_askArithmetic_42 : decode b_S_askArithmetic 42 = .ok (.getfield 10, 3) := by decide +kernel
theorem d_S_askArithmetic_45 : decode b_S_askArithmetic 45 = .ok (.getfield 85, 3) := by decide +kernel
theorem d_S_askArithmetic_48 : decode b_S_askArithmetic 48 = .ok (.iload_n 1, 1) := by decide +kernel
theorem d_S_askArithmetic_49 : decode b_S_askArithmetic 49 = .ok (.iaload, 1) := by decide +kernel
theorem d_S_askArithmetic_50 : decode b_S_askArithmetic 50 = .ok (.iaload, 1) := by decide +kernel
theorem d_S_askArithmetic_51 : decode b_S_askArithmetic 51 = .ok (.i2l, 1) := by decide +kernel
theorem d_S_askArithmetic_52 : decode b_S_askArithmetic 52 = .ok (.invokestatic 132, 3) := by decide +kernel
theorem d_S_askArithmetic_55 : decode b_S_askArithmetic 55 = .ok (.lstore_n 3, 1) := by decide +kernel
theorem d_S_askArithmetic_56 : decode b_S_askArithmetic 56 = .ok (.lload_n 3, 1) := by decide +kernel
theorem d_S_askArithmetic_57 : decode b_S_askArithmetic 57 = .ok (.lload_n 3, 1) := by decide +kernel
theorem d_S_askArithmetic_58 : decode b_S_askArithmetic 58 = .ok (.l2i, 1) := by decide +kernel
theorem d_S_askArithmetic_59 : decode b_S_askArithmetic 59 = .ok (.i2l, 1) := by decide +kernel
theorem d_S_askArithmetic_60 : decode b_S_askArithmetic 60 = .ok (.lcmp, 1) := by decide +kernel
theorem d_S_askArithmetic_61 : decode b_S_askArithmetic 61 = .ok (.ifCond .ne 13, 3) := by decide +kernel
theorem d_S_askArithmetic_64 : decode b_S_askArithmetic 64 = .ok (.aload_n 0, 1) := by decide +kernel
theorem d_S_askArithmetic_65 : decode b_S_askArithmetic 65 = .ok (.iload_n 1, 1) := by decide +kernel
theorem d_S_askArithmetic_66 : decode b_S_askArithmetic 66 = .ok (.lload_n 3, 1) := by decide +kernel
theorem d_S_askArithmetic_67 : decode b_S_askArithmetic 67 = .ok (.l2i, 1) := by decide +kernel
theorem d_S_askArithmetic_68 : decode b_S_askArithmetic 68 = .ok (.invokevirtual 116, 3) := by decide +kernel
theorem d_S_askArithmetic_71 : decode b_S_askArithmetic 71 = .ok (.goto 5, 3) := by decide +kernel
theorem d_S_askArithmetic_74 : decode b_S_askArithmetic 74 = .ok (.bipush (-4), 2) := by decide +kernel
theorem d_S_askArithmetic_76 : decode b_S_askArithmetic 76 = .ok (.ireturn, 1) := by decide +kernel
theorem d_S_calculate_0 : decode b_S_calculate 0 = .ok (.iload_n 0, 1) := by decide +kernel
theorem d_S_calculate_1 : decode b_S_calculate 1 = .ok (.bipush 8, 2) := by decide +kernel
theorem d_S_calculate_3 : decode b_S_calculate 3 = .ok (.if_icmp .ne 7, 3) := by decide +kernel
theorem d_S_calculate_6 : decode b_S_calculate 6 = .ok (.lload_n 1, 1) := by decide +kernel
