theorem dX8_sendAt_141 : decode cX8_sendAt 141 = .ok (.istore_n 3, 1) := by decide +kernel
theorem dX8_sendAt_142 : decode cX8_sendAt 142 = .ok (.aload_n 0, 1) := by decide +kernel
theorem dX8_sendAt_143 : decode cX8_sendAt 143 = .ok (.getfield 68, 3) := by decide +kernel
theorem dX8_sendAt_146 : decode cX8_sendAt 146 = .ok (.iload_n 3, 1) := by decide +kernel
theorem dX8_sendAt_147 : decode cX8_sendAt 147 = .ok (.iaload, 1) := by decide +kernel
theorem dX8_sendAt_148 : decode cX8_sendAt 148 = .ok (.ifCond .le 103, 3) := by decide +kernel
theorem dX8_sendAt_151 : decode cX8_sendAt 151 = .ok (.aload_n 0, 1) := by decide +kernel
theorem dX8_sendAt_152 : decode cX8_sendAt 152 = .ok (.iload_n 3, 1) := by decide +kernel
theorem dX8_sendAt_153 : decode cX8_sendAt 153 = .ok (.iconst 4, 1) := by decide +kernel
theorem dX8_sendAt_154 : decode cX8_sendAt 154 = .ok (.iload_n 2, 1) := by decide +kernel
theorem dX8_sendAt_155 : decode cX8_sendAt 155 = .ok (.imul, 1) := by decide +kernel
theorem dX8_sendAt_156 : decode cX8_sendAt 156 = .ok (.aload_n 0, 1) := by decide +kernel
theorem dX8_sendAt_157 : decode cX8_sendAt 157 = .ok (.getfield 47, 3) := by decide +kernel
theorem dX8_sendAt_160 : decode cX8_sendAt 160 = .ok (.iload_n 1, 1) := by decide +kernel
theorem dX8_sendAt_161 : decode cX8_sendAt 161 = .ok (.iaload, 1) := by decide +kernel
theorem dX8_sendAt_162 : decode cX8_sendAt 162 = .ok (.iadd, 1) := by decide +kernel
theorem dX8_sendAt_163 : decode cX8_sendAt 163 = .ok (.invokevirtual 140, 3) := by decide +kernel
theorem dX8_sendAt_166 : decode cX8_sendAt 166 = .ok (.aload_n 0, 1) := by decide +kernel
theorem dX8_sendAt_167 : decode cX8_sendAt 167 = .ok (.getfield 47, 3) := by decide +kernel
theorem dX8_sendAt_170 : decode cX8_sendAt 170 = .ok (.iload_n 1, 1) := by decide +kernel
theorem dX8_sendAt_171 : decode cX8_sendAt 171 = .ok (.dup2, 1) := by decide +kernel
theorem dX8_sendAt_172 : decode cX8_sendAt 172 = .ok (.iaload, 1) := by decide +kernel
theorem dX8_sendAt_173 : decode cX8_sendAt 173 = .ok (.iconst 1, 1) := by decide +kernel
theorem dX8_sendAt_174 : decode cX8_sendAt 174 = .ok (.iadd, 1) := by decide +kernel
theorem dX8_sendAt_175 : decode cX8_sendAt 175 = .ok (.iastore, 1) := by decide +kernel
theorem dX8_sendAt_176 : decode cX8_sendAt 176 = .ok (.aload_n 0, 1) := by decide +kernel
theorem dX8_sendAt_177 : decode cX8_sendAt 177 = .ok (.getfield 47, 3) := by decide +kernel
theorem dX8_sendAt_180 : decode cX8_sendAt 180 = .ok (.iload_n 1, 1) := by decide +kernel
theorem dX8_sendAt_181 : decode cX8_sendAt 181 = .ok (.iaload, 1) := by decide +kernel
theorem dX8_sendAt_182 : decode cX8_sendAt 182 = .ok (.aload_n 0, 1) := by decide +kernel
theorem dX8_sendAt_183 : decode cX8_sendAt 183 = .ok (.iload_n 2, 1) := by decide +kernel
theorem dX8_sendAt_184 : decode cX8_sendAt 184 = .ok (.invokevirtual 115, 3) := by decide +kernel
theorem dX8_sendAt_187 : decode cX8_sendAt 187 = .ok (.if_icmp .ne 64, 3) := by decide +kernel
theorem dX8_sendAt_190 : decode cX8_sendAt 190 = .ok (.aload_n 0, 1) := by decide +kernel
theorem dX8_sendAt_191 : decode cX8_sendAt 191 = .ok (.getfield 47, 3) := by decide +kernel
theorem dX8_sendAt_194 : decode cX8_sendAt 194 = .ok (.iload_n 1, 1) := by decide +kernel
theorem dX8_sendAt_195 : decode cX8_sendAt 195 = .ok (.iconst 0, 1) := by decide +kernel
theorem dX8_sendAt_196 : decode cX8_sendAt 196 = .ok (.iastore, 1) := by decide +kernel
theorem dX8_sendAt_197 : decode cX8_sendAt 197 = .ok (.aload_n 0, 1) := by decide +kernel
theorem dX8_sendAt_198 : decode cX8_sendAt 198 = .ok (.getfield 41, 3) := by decide +kernel
theorem dX8_sendAt_201 : decode cX8_sendAt 201 = .ok (.iload_n 1, 1) := by decide +kernel
theorem dX8_sendAt_202 : decode cX8_sendAt 202 = .ok (.dup2, 1) := by decide +kernel
theorem dX8_sendAt_203 : decode cX8_sendAt 203 = .ok (.iaload, 1) := by decide +kernel
theorem dX8_sendAt_204 : decode cX8_sendAt 204 = .ok (.iconst 1, 1) := by decide +kernel
theorem dX8_sendAt_205 : decode cX8_sendAt 205 = .ok (.isub, 1) := by decide +kernel
theorem dX8_sendAt_206 : decode cX8_sendAt 206 = .ok (.iastore, 1) := by decide +kernel
theorem dX8_sendAt_207 : decode cX8_sendAt 207 = .ok (.iconst 0, 1) := by decide +kernel
theorem dX8_sendAt_208 : decode cX8_sendAt 208 = .ok (.istore 4, 2) := by decide +kernel
theorem dX8_sendAt_210 : decode cX8_sendAt 210 = .ok (.iload 4, 2) := by decide +kernel
theorem dX8_sendAt_212 : decode cX8_sendAt 212 = .ok (.aload_n 0, 1) := by decide +kernel
theorem dX8_sendAt_213 : decode cX8_sendAt 213 = .ok (.getfield 41, 3) := by decide +kernel
theorem dX8_sendAt_216 : decode cX8_sendAt 216 = .ok (.iload_n 1, 1) := by decide +kernel
theorem dX8_sendAt_217 : decode cX8_sendAt 217 = .ok (.iaload, 1) := by decide +kernel
theorem dX8_sendAt_218 : decode cX8_sendAt 218 = .ok (.if_icmp .ge 33, 3) := by decide +kernel
theorem dX8_sendAt_221 : decode cX8_sendAt 221 = .ok (.aload_n 0, 1) := by decide +kernel
theorem dX8_sendAt_222 : decode cX8_sendAt 222 = .ok (.getfield 44, 3) := by decide +kernel
theorem dX8_sendAt_225 : decode cX8_sendAt 225 = .ok (.iconst 4, 1) := by decide +kernel
theorem dX8_sendAt_226 : decode cX8_sendAt 226 = .ok (.iload_n 1, 1) := by decide +kernel
theorem dX8_sendAt_227 : decode cX8_sendAt 227 = .ok (.imul, 1) := by decide +kernel
theorem dX8_sendAt_228 : decode cX8_sendAt 228 = .ok (.iload 4, 2) := by decide +kernel
theorem dX8_sendAt_230 : decode cX8_sendAt 230 = .ok (.iadd, 1) := by decide +kernel
theorem dX8_sendAt_231 : decode cX8_sendAt 231 = .ok (.aload_n 0, 1) := by decide +kernel
theorem dX8_sendAt_232 : decode cX8_sendAt 232 = .ok (.getfield 44, 3) := by decide +kernel
theorem dX8_sendAt_235 : decode cX8_sendAt 235 = .ok (.iconst 4, 1) := by decide +kernel
theorem dX8_sendAt_236 : decode cX8_sendAt 236 = .ok (.iload_n 1, 1) := by decide +kernel
theorem dX8_sendAt_237 : decode cX8_sendAt 237 = .ok (.imul, 1) := by decide +kernel
theorem dX8_sendAt_238 : decode cX8_sendAt 238 = .ok (.iload 4, 2) := by decide +kernel
theorem dX8_sendAt_240 : decode cX8_sendAt 240 = .ok (.iadd, 1) := by decide +kernel
theorem dX8_sendAt_241 : decode cX8_sendAt 241 = .ok (.iconst 1, 1) := by decide +kernel
theorem dX8_sendAt_242 : decode cX8_sendAt 242 = .ok (.iadd, 1) := by decide +kernel
theorem dX8_sendAt_243 : decode cX8_sendAt 243 = .ok (.iaload, 1) := by decide +kernel
theorem dX8_sendAt_244 : decode cX8_sendAt 244 = .ok (.iastore, 1) := by decide +kernel
theorem dX8_sendAt_245 : decode cX8_sendAt 245 = .ok (.iinc 4 1, 3) := by decide +kernel
theorem dX8_sendAt_248 : decode cX8_sendAt 248 = .ok (.goto (-38), 3) := by decide +kernel
theorem dX8_sendAt_251 : decode cX8_sendAt 251 = .ok (.return_, 1) := by decide +kernel
theorem dX8_ready_0 : decode cX8_ready 0 = .ok (.iconst 4, 1) := by decide +kernel
theorem dX8_ready_1 : decode cX8_ready 1 = .ok (.iconst 5, 1) := by decide +kernel
theorem dX8_ready_2 : decode cX8_ready 2 = .ok (.iload_n 1, 1) := by decide +kernel
theorem dX8_ready_3 : decode cX8_ready 3 = .ok (.imul, 1) := by decide +kernel
theorem dX8_ready_4 : decode cX8_ready 4 = .ok (.iload_n 2, 1) := by decide +kernel
theorem dX8_ready_5 : decode cX8_ready 5 = .ok (.iadd, 1) := by decide +kernel
theorem dX8_ready_6 : decode cX8_ready 6 = .ok (.imul, 1) := by decide +kernel
theorem dX8_ready_7 : decode cX8_ready 7 = .ok (.iload_n 3, 1) := by decide +kernel
theorem dX8_ready_8 : decode cX8_ready 8 = .ok (.iadd, 1) := by decide +kernel
theorem dX8_ready_9 : decode cX8_ready 9 = .ok (.istore 4, 2) := by decide +kernel
theorem dX8_ready_11 : decode cX8_ready 11 = .ok (.aload_n 0, 1) := by decide +kernel
theorem dX8_ready_12 : decode cX8_ready 12 = .ok (.getfield 59, 3) := by decide +kernel
theorem dX8_ready_15 : decode cX8_ready 15 = .ok (.iload 4, 2) := by decide +kernel
theorem dX8_ready_17 : decode cX8_ready 17 = .ok (.iaload, 1) := by decide +kernel
theorem dX8_ready_18 : decode cX8_ready 18 = .ok (.ifCond .le 39, 3) := by decide +kernel
theorem dX8_ready_21 : decode cX8_ready 21 = .ok (.aload_n 0, 1) := by decide +kernel
theorem dX8_ready_22 : decode cX8_ready 22 = .ok (.getfield 74, 3) := by decide +kernel
theorem dX8_ready_25 : decode cX8_ready 25 = .ok (.iload 4, 2) := by decide +kernel
theorem dX8_ready_27 : decode cX8_ready 27 = .ok (.iaload, 1) := by decide +kernel
theorem dX8_ready_28 : decode cX8_ready 28 = .ok (.iconst 2, 1) := by decide +kernel
theorem dX8_ready_29 : decode cX8_ready 29 = .ok (.if_icmp .ne 28, 3) := by decide +kernel
theorem dX8_ready_32 : decode cX8_ready 32 = .ok (.aload_n 0, 1) := by decide +kernel
theorem dX8_ready_33 : decode cX8_ready 33 = .ok (.getfield 68, 3) := by decide +kernel
theorem dX8_ready_36 : decode cX8_ready 36 = .ok (.aload_n 0, 1) := by decide +kernel
theorem dX8_ready_37 : decode cX8_ready 37 = .ok (.iload_n 1, 1) := by decide +kernel
theorem dX8_ready_38 : decode cX8_ready 38 = .ok (.aload_n 0, 1) := by decide +kernel
theorem dX8_ready_39 : decode cX8_ready 39 = .ok (.getfield 77, 3) := by decide +kernel
theorem dX8_ready_42 : decode cX8_ready 42 = .ok (.iload 4, 2) := by decide +kernel
theorem dX8_ready_44 : decode cX8_ready 44 = .ok (.iaload, 1) := by decide +kernel
theorem dX8_ready_45 : decode cX8_ready 45 = .ok (.iload_n 3, 1) := by decide +kernel
theorem dX8_ready_46 : decode cX8_ready 46 = .ok (.invokevirtual 144, 3) := by decide +kernel
theorem dX8_ready_49 : decode cX8_ready 49 = .ok (.iaload, 1) := by decide +kernel
theorem dX8_ready_50 : decode cX8_ready 50 = .ok (.ifCond .le 7, 3) := by decide +kernel
theorem dX8_ready_53 : decode cX8_ready 53 = .ok (.iconst 1, 1) := by decide +kernel
theorem dX8_ready_54 : decode cX8_ready 54 = .ok (.goto 4, 3) := by decide +kernel
theorem dX8_ready_57 : decode cX8_ready 57 = .ok (.iconst 0, 1) := by decide +kernel
theorem dX8_ready_58 : decode cX8_ready 58 = .ok (.ireturn, 1) := by decide +kernel
theorem dX8_name_0 : decode cX8_name 0 = .ok (.aload_n 0, 1) := by decide +kernel
theorem dX8_name_1 : decode cX8_name 1 = .ok (.getfield 86, 3) := by decide +kernel
theorem dX8_name_4 : decode cX8_name 4 = .ok (.iconst 5, 1) := by decide +kernel
theorem dX8_name_5 : decode cX8_name 5 = .ok (.iload_n 1, 1) := by decide +kernel
theorem dX8_name_6 : decode cX8_name 6 = .ok (.imul, 1) := by decide +kernel
theorem dX8_name_7 : decode cX8_name 7 = .ok (.iload_n 2, 1) := by decide +kernel
theorem dX8_name_8 : decode cX8_name 8 = .ok (.iadd, 1) := by decide +kernel
theorem dX8_name_9 : decode cX8_name 9 = .ok (.iaload, 1) := by decide +kernel
theorem dX8_name_10 : decode cX8_name 10 = .ok (.istore_n 3, 1) := by decide +kernel
theorem dX8_name_11 : decode cX8_name 11 = .ok (.iconst 0, 1) := by decide +kernel
theorem dX8_name_12 : decode cX8_name 12 = .ok (.istore 4, 2) := by decide +kernel
theorem dX8_name_14 : decode cX8_name 14 = .ok (.iload 4, 2) := by decide +kernel
theorem dX8_name_16 : decode cX8_name 16 = .ok (.aload_n 0, 1) := by decide +kernel
theorem dX8_name_17 : decode cX8_name 17 = .ok (.getfield 108, 3) := by decide +kernel
theorem dX8_name_20 : decode cX8_name 20 = .ok (.if_icmp .ge 34, 3) := by decide +kernel
theorem dX8_name_23 : decode cX8_name 23 = .ok (.iload_n 3, 1) := by decide +kernel
theorem dX8_name_24 : decode cX8_name 24 = .ok (.iload 4, 2) := by decide +kernel
theorem dX8_name_26 : decode cX8_name 26 = .ok (.iadd, 1) := by decide +kernel
theorem dX8_name_27 : decode cX8_name 27 = .ok (.aload_n 0, 1) := by decide +kernel
theorem dX8_name_28 : decode cX8_name 28 = .ok (.getfield 108, 3) := by decide +kernel
theorem dX8_name_31 : decode cX8_name 31 = .ok (.irem, 1) := by decide +kernel
theorem dX8_name_32 : decode cX8_name 32 = .ok (.istore 5, 2) := by decide +kernel
theorem dX8_name_34 : decode cX8_name 34 = .ok (.aload_n 0, 1) := by decide +kernel
theorem dX8_name_35 : decode cX8_name 35 = .ok (.iload_n 1, 1) := by decide +kernel
theorem dX8_name_36 : decode cX8_name 36 = .ok (.iload_n 2, 1) := by decide +kernel
theorem dX8_name_37 : decode cX8_name 37 = .ok (.iload 5, 2) := by decide +kernel
theorem dX8_name_39 : decode cX8_name 39 = .ok (.invokevirtual 148, 3) := by decide +kernel
theorem dX8_name_42 : decode cX8_name 42 = .ok (.ifCond .eq 6, 3) := by decide +kernel
theorem dX8_name_45 : decode cX8_name 45 = .ok (.iload 5, 2) := by decide +kernel
theorem dX8_name_47 : decode cX8_name 47 = .ok (.ireturn, 1) := by decide +kernel
theorem dX8_name_48 : decode cX8_name 48 = .ok (.iinc 4 1, 3) := by decide +kernel
theorem dX8_name_51 : decode cX8_name 51 = .ok (.goto (-37), 3) := by decide +kernel
theorem dX8_name_54 : decode cX8_name 54 = .ok (.iconst (-1), 1) := by decide +kernel
theorem dX8_name_55 : decode cX8_name 55 = .ok (.ireturn, 1) := by decide +kernel
theorem dX8_moveTo_0 : decode cX8_moveTo 0 = .ok (.aload_n 0, 1) := by decide +kernel
theorem dX8_moveTo_1 : decode cX8_moveTo 1 = .ok (.getfield 89, 3) := by decide +kernel
theorem dX8_moveTo_4 : decode cX8_moveTo 4 = .ok (.iconst 5, 1) := by decide +kernel
theorem dX8_moveTo_5 : decode cX8_moveTo 5 = .ok (.iload_n 1, 1) := by decide +kernel
theorem dX8_moveTo_6 : decode cX8_moveTo 6 = .ok (.imul, 1) := by decide +kernel
theorem dX8_moveTo_7 : decode cX8_moveTo 7 = .ok (.iload_n 2, 1) := by decide +kernel
theorem dX8_moveTo_8 : decode cX8_moveTo 8 = .ok (.iadd, 1) := by decide +kernel
theorem dX8_moveTo_9 : decode cX8_moveTo 9 = .ok (.iaload, 1) := by decide +kernel
theorem dX8_moveTo_10 : decode cX8_moveTo 10 = .ok (.istore_n 3, 1) := by decide +kernel
theorem dX8_moveTo_11 : decode cX8_moveTo 11 = .ok (.iconst 0, 1) := by decide +kernel
theorem dX8_moveTo_12 : decode cX8_moveTo 12 = .ok (.istore 4, 2) := by decide +kernel
theorem dX8_moveTo_14 : decode cX8_moveTo 14 = .ok (.iload 4, 2) := by decide +kernel
theorem dX8_moveTo_16 : decode cX8_moveTo 16 = .ok (.iconst 5, 1) := by decide +kernel
theorem dX8_moveTo_17 : decode cX8_moveTo 17 = .ok (.if_icmp .ge 147, 3) := by decide +kernel
theorem dX8_moveTo_20 : decode cX8_moveTo 20 = .ok (.iload_n 3, 1) := by decide +kernel
theorem dX8_moveTo_21 : decode cX8_moveTo 21 = .ok (.iload 4, 2) := by decide +kernel
theorem dX8_moveTo_23 : decode cX8_moveTo 23 = .ok (.iadd, 1) := by decide +kernel
theorem dX8_moveTo_24 : decode cX8_moveTo 24 = .ok (.iconst 5, 1) := by decide +kernel
theorem dX8_moveTo_25 : decode cX8_moveTo 25 = .ok (.irem, 1) := by decide +kernel
theorem dX8_moveTo_26 : decode cX8_moveTo 26 = .ok (.istore 5, 2) := by decide +kernel
theorem dX8_moveTo_28 : decode cX8_moveTo 28 = .ok (.aload_n 0, 1) := by decide +kernel
theorem dX8_moveTo_29 : decode cX8_moveTo 29 = .ok (.getfield 92, 3) := by decide +kernel
theorem dX8_moveTo_32 : decode cX8_moveTo 32 = .ok (.iload 5, 2) := by decide +kernel
theorem dX8_moveTo_34 : decode cX8_moveTo 34 = .ok (.iaload, 1) := by decide +kernel
theorem dX8_moveTo_35 : decode cX8_moveTo 35 = .ok (.istore 6, 2) := by decide +kernel
theorem dX8_moveTo_37 : decode cX8_moveTo 37 = .ok (.iconst 4, 1) := by decide +kernel
theorem dX8_moveTo_38 : decode cX8_moveTo 38 = .ok (.iconst 5, 1) := by decide +kernel
theorem dX8_moveTo_39 : decode cX8_moveTo 39 = .ok (.iload_n 1, 1) := by decide +kernel
theorem dX8_moveTo_40 : decode cX8_moveTo 40 = .ok (.imul, 1) := by decide +kernel
theorem dX8_moveTo_41 : decode cX8_moveTo 41 = .ok (.iload 5, 2) := by decide +kernel
theorem dX8_moveTo_43 : decode cX8_moveTo 43 = .ok (.iadd, 1) := by decide +kernel
theorem dX8_moveTo_44 : decode cX8_moveTo 44 = .ok (.imul, 1) := by decide +kernel
theorem dX8_moveTo_45 : decode cX8_moveTo 45 = .ok (.iload 6, 2) := by decide +kernel
theorem dX8_moveTo_47 : decode cX8_moveTo 47 = .ok (.iadd, 1) := by decide +kernel
theorem dX8_moveTo_48 : decode cX8_moveTo 48 = .ok (.istore 7, 2) := by decide +kernel
theorem dX8_moveTo_50 : decode cX8_moveTo 50 = .ok (.iload 6, 2) := by decide +kernel
theorem dX8_moveTo_52 : decode cX8_moveTo 52 = .ok (.ifCond .lt 106, 3) := by decide +kernel
theorem dX8_moveTo_55 : decode cX8_moveTo 55 = .ok (.aload_n 0, 1) := by decide +kernel
theorem dX8_moveTo_56 : decode cX8_moveTo 56 = .ok (.getfield 77, 3) := by decide +kernel
theorem dX8_moveTo_59 : decode cX8_moveTo 59 = .ok (.iload 7, 2) := by decide +kernel
theorem dX8_moveTo_61 : decode cX8_moveTo 61 = .ok (.iaload, 1) := by decide +kernel
theorem dX8_moveTo_62 : decode cX8_moveTo 62 = .ok (.iload_n 2, 1) := by decide +kernel
theorem dX8_moveTo_63 : decode cX8_moveTo 63 = .ok (.if_icmp .ne 95, 3) := by decide +kernel
theorem dX8_moveTo_66 : decode cX8_moveTo 66 = .ok (.aload_n 0, 1) := by decide +kernel
theorem dX8_moveTo_67 : decode cX8_moveTo 67 = .ok (.iload 7, 2) := by decide +kernel
theorem dX8_moveTo_69 : decode cX8_moveTo 69 = .ok (.invokevirtual 128, 3) := by decide +kernel
theorem dX8_moveTo_72 : decode cX8_moveTo 72 = .ok (.istore 8, 2) := by decide +kernel
theorem dX8_moveTo_74 : decode cX8_moveTo 74 = .ok (.aload_n 0, 1) := by decide +kernel
theorem dX8_moveTo_75 : decode cX8_moveTo 75 = .ok (.aload_n 0, 1) := by decide +kernel
theorem dX8_moveTo_76 : decode cX8_moveTo 76 = .ok (.iload_n 1, 1) := by decide +kernel
theorem dX8_moveTo_77 : decode cX8_moveTo 77 = .ok (.iload_n 2, 1) := by decide +kernel
theorem dX8_moveTo_78 : decode cX8_moveTo 78 = .ok (.iload 6, 2) := by decide +kernel
theorem dX8_moveTo_80 : decode cX8_moveTo 80 = .ok (.invokevirtual 144, 3) := by decide +kernel
theorem dX8_moveTo_83 : decode cX8_moveTo 83 = .ok (.iload 8, 2) := by decide +kernel
theorem dX8_moveTo_85 : decode cX8_moveTo 85 = .ok (.invokevirtual 140, 3) := by decide +kernel
theorem dX8_moveTo_88 : decode cX8_moveTo 88 = .ok (.aload_n 0, 1) := by decide +kernel
theorem dX8_moveTo_89 : decode cX8_moveTo 89 = .ok (.getfield 89, 3) := by decide +kernel
theorem dX8_moveTo_92 : decode cX8_moveTo 92 = .ok (.iconst 5, 1) := by decide +kernel
theorem dX8_moveTo_93 : decode cX8_moveTo 93 = .ok (.iload_n 1, 1) := by decide +kernel
theorem dX8_moveTo_94 : decode cX8_moveTo 94 = .ok (.imul, 1) := by decide +kernel
theorem dX8_moveTo_95 : decode cX8_moveTo 95 = .ok (.iload_n 2, 1) := by decide +kernel
theorem dX8_moveTo_96 : decode cX8_moveTo 96 = .ok (.iadd, 1) := by decide +kernel
theorem dX8_moveTo_97 : decode cX8_moveTo 97 = .ok (.iload 5, 2) := by decide +kernel
theorem dX8_moveTo_99 : decode cX8_moveTo 99 = .ok (.iconst 1, 1) := by decide +kernel
theorem dX8_moveTo_100 : decode cX8_moveTo 100 = .ok (.iadd, 1) := by decide +kernel
theorem dX8_moveTo_101 : decode cX8_moveTo 101 = .ok (.iconst 5, 1) := by decide +kernel
theorem dX8_moveTo_102 : decode cX8_moveTo 102 = .ok (.irem, 1) := by decide +kernel
theorem dX8_moveTo_103 : decode cX8_moveTo 103 = .ok (.iastore, 1) := by decide +kernel
theorem dX8_moveTo_104 : decode cX8_moveTo 104 = .ok (.aload_n 0, 1) := by decide +kernel
theorem dX8_moveTo_105 : decode cX8_moveTo 105 = .ok (.getfield 86, 3) := by decide +kernel
theorem dX8_moveTo_108 : decode cX8_moveTo 108 = .ok (.iconst 5, 1) := by decide +kernel
theorem dX8_moveTo_109 : decode cX8_moveTo 109 = .ok (.iload_n 1, 1) := by decide +kernel
theorem dX8_moveTo_110 : decode cX8_moveTo 110 = .ok (.imul, 1) := by decide +kernel
theorem dX8_moveTo_111 : decode cX8_moveTo 111 = .ok (.iload 5, 2) := by decide +kernel
theorem dX8_moveTo_113 : decode cX8_moveTo 113 = .ok (.iadd, 1) := by decide +kernel
theorem dX8_moveTo_114 : decode cX8_moveTo 114 = .ok (.iload 6, 2) := by decide +kernel
theorem dX8_moveTo_116 : decode cX8_moveTo 116 = .ok (.iconst 1, 1) := by decide +kernel
theorem dX8_moveTo_117 : decode cX8_moveTo 117 = .ok (.iadd, 1) := by decide +kernel
theorem dX8_moveTo_118 : decode cX8_moveTo 118 = .ok (.aload_n 0, 1) := by decide +kernel
theorem dX8_moveTo_119 : decode cX8_moveTo 119 = .ok (.getfield 108, 3) := by decide +kernel
theorem dX8_moveTo_122 : decode cX8_moveTo 122 = .ok (.irem, 1) := by decide +kernel
theorem dX8_moveTo_123 : decode cX8_moveTo 123 = .ok (.iastore, 1) := by decide +kernel
theorem dX8_moveTo_124 : decode cX8_moveTo 124 = .ok (.aload_n 0, 1) := by decide +kernel
theorem dX8_moveTo_125 : decode cX8_moveTo 125 = .ok (.iload 8, 2) := by decide +kernel
theorem dX8_moveTo_127 : decode cX8_moveTo 127 = .ok (.invokevirtual 125, 3) := by decide +kernel
theorem dX8_moveTo_130 : decode cX8_moveTo 130 = .ok (.ifCond .eq 27, 3) := by decide +kernel
theorem dX8_moveTo_133 : decode cX8_moveTo 133 = .ok (.aload_n 0, 1) := by decide +kernel
theorem dX8_moveTo_134 : decode cX8_moveTo 134 = .ok (.getfield 80, 3) := by decide +kernel
theorem dX8_moveTo_137 : decode cX8_moveTo 137 = .ok (.iconst 4, 1) := by decide +kernel
theorem dX8_moveTo_138 : decode cX8_moveTo 138 = .ok (.iconst 5, 1) := by decide +kernel
theorem dX8_moveTo_139 : decode cX8_moveTo 139 = .ok (.iload_n 1, 1) := by decide +kernel
theorem dX8_moveTo_140 : decode cX8_moveTo 140 = .ok (.imul, 1) := by decide +kernel
theorem dX8_moveTo_141 : decode cX8_moveTo 141 = .ok (.iload_n 2, 1) := by decide +kernel
theorem dX8_moveTo_142 : decode cX8_moveTo 142 = .ok (.iadd, 1) := by decide +kernel
theorem dX8_moveTo_143 : decode cX8_moveTo 143 = .ok (.imul, 1) := by decide +kernel
theorem dX8_moveTo_144 : decode cX8_moveTo 144 = .ok (.iload 6, 2) := by decide +kernel
theorem dX8_moveTo_146 : decode cX8_moveTo 146 = .ok (.iadd, 1) := by decide +kernel
theorem dX8_moveTo_147 : decode cX8_moveTo 147 = .ok (.iconst 0, 1) := by decide +kernel
theorem dX8_moveTo_148 : decode cX8_moveTo 148 = .ok (.bastore, 1) := by decide +kernel
theorem dX8_moveTo_149 : decode cX8_moveTo 149 = .ok (.aload_n 0, 1) := by decide +kernel
theorem dX8_moveTo_150 : decode cX8_moveTo 150 = .ok (.getfield 74, 3) := by decide +kernel
theorem dX8_moveTo_153 : decode cX8_moveTo 153 = .ok (.iload 7, 2) := by decide +kernel
theorem dX8_moveTo_155 : decode cX8_moveTo 155 = .ok (.iconst 0, 1) := by decide +kernel
theorem dX8_moveTo_156 : decode cX8_moveTo 156 = .ok (.iastore, 1) := by decide +kernel
theorem dX8_moveTo_157 : decode cX8_moveTo 157 = .ok (.return_, 1) := by decide +kernel
theorem dX8_moveTo_158 : decode cX8_moveTo 158 = .ok (.iinc 4 1, 3) := by decide +kernel
theorem dX8_moveTo_161 : decode cX8_moveTo 161 = .ok (.goto (-147), 3) := by decide +kernel
theorem dX8_moveTo_164 : decode cX8_moveTo 164 = .ok (.return_, 1) := by decide +kernel
theorem dX8_move_0 : decode cX8_move 0 = .ok (.iconst 0, 1) := by decide +kernel
theorem dX8_move_1 : decode cX8_move 1 = .ok (.istore_n 2, 1) := by decide +kernel
theorem dX8_move_2 : decode cX8_move 2 = .ok (.iload_n 2, 1) := by decide +kernel
theorem dX8_move_3 : decode cX8_move 3 = .ok (.iconst 5, 1) := by decide +kernel
theorem dX8_move_4 : decode cX8_move 4 = .ok (.if_icmp .ge 21, 3) := by decide +kernel
theorem dX8_move_7 : decode cX8_move 7 = .ok (.aload_n 0, 1) := by decide +kernel
theorem dX8_move_8 : decode cX8_move 8 = .ok (.getfield 92, 3) := by decide +kernel
theorem dX8_move_11 : decode cX8_move 11 = .ok (.iload_n 2, 1) := by decide +kernel
theorem dX8_move_12 : decode cX8_move 12 = .ok (.aload_n 0, 1) := by decide +kernel
theorem dX8_move_13 : decode cX8_move 13 = .ok (.iload_n 1, 1) := by decide +kernel
theorem dX8_move_14 : decode cX8_move 14 = .ok (.iload_n 2, 1) := by decide +kernel
theorem dX8_move_15 : decode cX8_move 15 = .ok (.invokevirtual 152, 3) := by decide +kernel
theorem dX8_move_18 : decode cX8_move 18 = .ok (.iastore, 1) := by decide +kernel
theorem dX8_move_19 : decode cX8_move 19 = .ok (.iinc 2 1, 3) := by decide +kernel
theorem dX8_move_22 : decode cX8_move 22 = .ok (.goto (-20), 3) := by decide +kernel
theorem dX8_move_25 : decode cX8_move 25 = .ok (.iconst 0, 1) := by decide +kernel
theorem dX8_move_26 : decode cX8_move 26 = .ok (.istore_n 2, 1) := by decide +kernel
theorem dX8_move_27 : decode cX8_move 27 = .ok (.iload_n 2, 1) := by decide +kernel
theorem dX8_move_28 : decode cX8_move 28 = .ok (.iconst 5, 1) := by decide +kernel
theorem dX8_move_29 : decode cX8_move 29 = .ok (.if_icmp .ge 15, 3) := by decide +kernel
theorem dX8_move_32 : decode cX8_move 32 = .ok (.aload_n 0, 1) := by decide +kernel
theorem dX8_move_33 : decode cX8_move 33 = .ok (.iload_n 1, 1) := by decide +kernel
theorem dX8_move_34 : decode cX8_move 34 = .ok (.iload_n 2, 1) := by decide +kernel
theorem dX8_move_35 : decode cX8_move 35 = .ok (.invokevirtual 156, 3) := by decide +kernel
theorem dX8_move_38 : decode cX8_move 38 = .ok (.iinc 2 1, 3) := by decide +kernel
theorem dX8_move_41 : decode cX8_move 41 = .ok (.goto (-14), 3) := by decide +kernel
theorem dX8_move_44 : decode cX8_move 44 = .ok (.return_, 1) := by decide +kernel
theorem dX8_grant_0 : decode cX8_grant 0 = .ok (.iconst 4, 1) := by decide +kernel
theorem dX8_grant_1 : decode cX8_grant 1 = .ok (.iconst 5, 1) := by decide +kernel
theorem dX8_grant_2 : decode cX8_grant 2 = .ok (.iload_n 1, 1) := by decide +kernel
theorem dX8_grant_3 : decode cX8_grant 3 = .ok (.imul, 1) := by decide +kernel
theorem dX8_grant_4 : decode cX8_grant 4 = .ok (.iload_n 2, 1) := by decide +kernel
theorem dX8_grant_5 : decode cX8_grant 5 = .ok (.iadd, 1) := by decide +kernel
theorem dX8_grant_6 : decode cX8_grant 6 = .ok (.imul, 1) := by decide +kernel
theorem dX8_grant_7 : decode cX8_grant 7 = .ok (.iload_n 3, 1) := by decide +kernel
theorem dX8_grant_8 : decode cX8_grant 8 = .ok (.iadd, 1) := by decide +kernel
theorem dX8_grant_9 : decode cX8_grant 9 = .ok (.istore 4, 2) := by decide +kernel
theorem dX8_grant_11 : decode cX8_grant 11 = .ok (.aload_n 0, 1) := by decide +kernel
theorem dX8_grant_12 : decode cX8_grant 12 = .ok (.getfield 80, 3) := by decide +kernel
theorem dX8_grant_15 : decode cX8_grant 15 = .ok (.iload 4, 2) := by decide +kernel
theorem dX8_grant_17 : decode cX8_grant 17 = .ok (.baload, 1) := by decide +kernel
theorem dX8_grant_18 : decode cX8_grant 18 = .ok (.ifCond .eq 4, 3) := by decide +kernel
theorem dX8_grant_21 : decode cX8_grant 21 = .ok (.return_, 1) := by decide +kernel
theorem dX8_grant_22 : decode cX8_grant 22 = .ok (.iconst 0, 1) := by decide +kernel
theorem dX8_grant_23 : decode cX8_grant 23 = .ok (.istore 5, 2) := by decide +kernel
theorem dX8_grant_25 : decode cX8_grant 25 = .ok (.iload 5, 2) := by decide +kernel
theorem dX8_grant_27 : decode cX8_grant 27 = .ok (.iconst 5, 1) := by decide +kernel
theorem dX8_grant_28 : decode cX8_grant 28 = .ok (.if_icmp .ge 87, 3) := by decide +kernel
theorem dX8_grant_31 : decode cX8_grant 31 = .ok (.aload_n 0, 1) := by decide +kernel
theorem dX8_grant_32 : decode cX8_grant 32 = .ok (.getfield 83, 3) := by decide +kernel
theorem dX8_grant_35 : decode cX8_grant 35 = .ok (.iload 4, 2) := by decide +kernel
theorem dX8_grant_37 : decode cX8_grant 37 = .ok (.iaload, 1) := by decide +kernel
theorem dX8_grant_38 : decode cX8_grant 38 = .ok (.iload 5, 2) := by decide +kernel
theorem dX8_grant_40 : decode cX8_grant 40 = .ok (.iadd, 1) := by decide +kernel
theorem dX8_grant_41 : decode cX8_grant 41 = .ok (.iconst 5, 1) := by decide +kernel
theorem dX8_grant_42 : decode cX8_grant 42 = .ok (.irem, 1) := by decide +kernel
theorem dX8_grant_43 : decode cX8_grant 43 = .ok (.istore 6, 2) := by decide +kernel
theorem dX8_grant_45 : decode cX8_grant 45 = .ok (.iconst 4, 1) := by decide +kernel
theorem dX8_grant_46 : decode cX8_grant 46 = .ok (.iconst 5, 1) := by decide +kernel
theorem dX8_grant_47 : decode cX8_grant 47 = .ok (.iload_n 1, 1) := by decide +kernel
theorem dX8_grant_48 : decode cX8_grant 48 = .ok (.imul, 1) := by decide +kernel
theorem dX8_grant_49 : decode cX8_grant 49 = .ok (.iload 6, 2) := by decide +kernel
theorem dX8_grant_51 : decode cX8_grant 51 = .ok (.iadd, 1) := by decide +kernel
theorem dX8_grant_52 : decode cX8_grant 52 = .ok (.imul, 1) := by decide +kernel
theorem dX8_grant_53 : decode cX8_grant 53 = .ok (.iload_n 3, 1) := by decide +kernel
theorem dX8_grant_54 : decode cX8_grant 54 = .ok (.iadd, 1) := by decide +kernel
theorem dX8_grant_55 : decode cX8_grant 55 = .ok (.istore 7, 2) := by decide +kernel
theorem dX8_grant_57 : decode cX8_grant 57 = .ok (.aload_n 0, 1) := by decide +kernel
theorem dX8_grant_58 : decode cX8_grant 58 = .ok (.getfield 74, 3) := by decide +kernel
theorem dX8_grant_61 : decode cX8_grant 61 = .ok (.iload 7, 2) := by decide +kernel
theorem dX8_grant_63 : decode cX8_grant 63 = .ok (.iaload, 1) := by decide +kernel
theorem dX8_grant_64 : decode cX8_grant 64 = .ok (.iconst 1, 1) := by decide +kernel
theorem dX8_grant_65 : decode cX8_grant 65 = .ok (.if_icmp .ne 44, 3) := by decide +kernel
theorem dX8_grant_68 : decode cX8_grant 68 = .ok (.aload_n 0, 1) := by decide +kernel
theorem dX8_grant_69 : decode cX8_grant 69 = .ok (.getfield 77, 3) := by decide +kernel
theorem dX8_grant_72 : decode cX8_grant 72 = .ok (.iload 7, 2) := by decide +kernel
theorem dX8_grant_74 : decode cX8_grant 74 = .ok (.iaload, 1) := by decide +kernel
theorem dX8_grant_75 : decode cX8_grant 75 = .ok (.iload_n 2, 1) := by decide +kernel
theorem dX8_grant_76 : decode cX8_grant 76 = .ok (.if_icmp .ne 33, 3) := by decide +kernel
theorem dX8_grant_79 : decode cX8_grant 79 = .ok (.aload_n 0, 1) := by decide +kernel
theorem dX8_grant_80 : decode cX8_grant 80 = .ok (.getfield 80, 3) := by decide +kernel
theorem dX8_grant_83 : decode cX8_grant 83 = .ok (.iload 4, 2) := by decide +kernel
theorem dX8_grant_85 : decode cX8_grant 85 = .ok (.iconst 1, 1) := by decide +kernel
theorem dX8_grant_86 : decode cX8_grant 86 = .ok (.bastore, 1) := by decide +kernel
theorem dX8_grant_87 : decode cX8_grant 87 = .ok (.aload_n 0, 1) := by decide +kernel
theorem dX8_grant_88 : decode cX8_grant 88 = .ok (.getfield 74, 3) := by decide +kernel
theorem dX8_grant_91 : decode cX8_grant 91 = .ok (.iload 7, 2) := by decide +kernel
theorem dX8_grant_93 : decode cX8_grant 93 = .ok (.iconst 2, 1) := by decide +kernel
theorem dX8_grant_94 : decode cX8_grant 94 = .ok (.iastore, 1) := by decide +kernel
theorem dX8_grant_95 : decode cX8_grant 95 = .ok (.aload_n 0, 1) := by decide +kernel
theorem dX8_grant_96 : decode cX8_grant 96 = .ok (.getfield 83, 3) := by decide +kernel
theorem dX8_grant_99 : decode cX8_grant 99 = .ok (.iload 4, 2) := by decide +kernel
theorem dX8_grant_101 : decode cX8_grant 101 = .ok (.iload 6, 2) := by decide +kernel
theorem dX8_grant_103 : decode cX8_grant 103 = .ok (.iconst 1, 1) := by decide +kernel
theorem dX8_grant_104 : decode cX8_grant 104 = .ok (.iadd, 1) := by decide +kernel
theorem dX8_grant_105 : decode cX8_grant 105 = .ok (.iconst 5, 1) := by decide +kernel
theorem dX8_grant_106 : decode cX8_grant 106 = .ok (.irem, 1) := by decide +kernel
theorem dX8_grant_107 : decode cX8_grant 107 = .ok (.iastore, 1) := by decide +kernel
theorem dX8_grant_108 : decode cX8_grant 108 = .ok (.return_, 1) := by decide +kernel
theorem dX8_grant_109 : decode cX8_grant 109 = .ok (.iinc 5 1, 3) := by decide +kernel
theorem dX8_grant_112 : decode cX8_grant 112 = .ok (.goto (-87), 3) := by decide +kernel
theorem dX8_grant_115 : decode cX8_grant 115 = .ok (.return_, 1) := by decide +kernel
theorem dX8_route_0 : decode cX8_route 0 = .ok (.aload_n 0, 1) := by decide +kernel
theorem dX8_route_1 : decode cX8_route 1 = .ok (.getfield 74, 3) := by decide +kernel
theorem dX8_route_4 : decode cX8_route 4 = .ok (.iload_n 2, 1) := by decide +kernel
theorem dX8_route_5 : decode cX8_route 5 = .ok (.iaload, 1) := by decide +kernel
theorem dX8_route_6 : decode cX8_route 6 = .ok (.ifCond .ne 12, 3) := by decide +kernel
theorem dX8_route_9 : decode cX8_route 9 = .ok (.aload_n 0, 1) := by decide +kernel
theorem dX8_route_10 : decode cX8_route 10 = .ok (.getfield 59, 3) := by decide +kernel
theorem dX8_route_13 : decode cX8_route 13 = .ok (.iload_n 2, 1) := by decide +kernel
theorem dX8_route_14 : decode cX8_route 14 = .ok (.iaload, 1) := by decide +kernel
theorem dX8_route_15 : decode cX8_route 15 = .ok (.ifCond .ne 4, 3) := by decide +kernel
theorem dX8_route_18 : decode cX8_route 18 = .ok (.return_, 1) := by decide +kernel
theorem dX8_route_19 : decode cX8_route 19 = .ok (.aload_n 0, 1) := by decide +kernel
theorem dX8_route_20 : decode cX8_route 20 = .ok (.aload_n 0, 1) := by decide +kernel
theorem dX8_route_21 : decode cX8_route 21 = .ok (.getfield 62, 3) := by decide +kernel
theorem dX8_route_24 : decode cX8_route 24 = .ok (.iconst 4, 1) := by decide +kernel
theorem dX8_route_25 : decode cX8_route 25 = .ok (.iload_n 2, 1) := by decide +kernel
theorem dX8_route_26 : decode cX8_route 26 = .ok (.imul, 1) := by decide +kernel
theorem dX8_route_27 : decode cX8_route 27 = .ok (.iaload, 1) := by decide +kernel
theorem dX8_route_28 : decode cX8_route 28 = .ok (.iconst 4, 1) := by decide +kernel
theorem dX8_route_29 : decode cX8_route 29 = .ok (.idiv, 1) := by decide +kernel
theorem dX8_route_30 : decode cX8_route 30 = .ok (.invokevirtual 159, 3) := by decide +kernel
theorem dX8_route_33 : decode cX8_route 33 = .ok (.istore_n 3, 1) := by decide +kernel
theorem dX8_route_34 : decode cX8_route 34 = .ok (.iload_n 3, 1) := by decide +kernel
theorem dX8_route_35 : decode cX8_route 35 = .ok (.aload_n 0, 1) := by decide +kernel
theorem dX8_route_36 : decode cX8_route 36 = .ok (.getfield 95, 3) := by decide +kernel
theorem dX8_route_39 : decode cX8_route 39 = .ok (.irem, 1) := by decide +kernel
theorem dX8_route_40 : decode cX8_route 40 = .ok (.iload_n 1, 1) := by decide +kernel
theorem dX8_route_41 : decode cX8_route 41 = .ok (.aload_n 0, 1) := by decide +kernel
theorem dX8_route_42 : decode cX8_route 42 = .ok (.getfield 95, 3) := by decide +kernel
theorem dX8_route_45 : decode cX8_route 45 = .ok (.irem, 1) := by decide +kernel
theorem dX8_route_46 : decode cX8_route 46 = .ok (.isub, 1) := by decide +kernel
theorem dX8_route_47 : decode cX8_route 47 = .ok (.istore 4, 2) := by decide +kernel
theorem dX8_route_49 : decode cX8_route 49 = .ok (.iload_n 3, 1) := by decide +kernel
theorem dX8_route_50 : decode cX8_route 50 = .ok (.aload_n 0, 1) := by decide +kernel
theorem dX8_route_51 : decode cX8_route 51 = .ok (.getfield 95, 3) := by decide +kernel
theorem dX8_route_54 : decode cX8_route 54 = .ok (.idiv, 1) := by decide +kernel
theorem dX8_route_55 : decode cX8_route 55 = .ok (.iload_n 1, 1) := by decide +kernel
theorem dX8_route_56 : decode cX8_route 56 = .ok (.aload_n 0, 1) := by decide +kernel
theorem dX8_route_57 : decode cX8_route 57 = .ok (.getfield 95, 3) := by decide +kernel
theorem dX8_route_60 : decode cX8_route 60 = .ok (.idiv, 1) := by decide +kernel
theorem dX8_route_61 : decode cX8_route 61 = .ok (.isub, 1) := by decide +kernel
theorem dX8_route_62 : decode cX8_route 62 = .ok (.istore 5, 2) := by decide +kernel
theorem dX8_route_64 : decode cX8_route 64 = .ok (.aload_n 0, 1) := by decide +kernel
theorem dX8_route_65 : decode cX8_route 65 = .ok (.getfield 77, 3) := by decide +kernel
theorem dX8_route_68 : decode cX8_route 68 = .ok (.iload_n 2, 1) := by decide +kernel
theorem dX8_route_69 : decode cX8_route 69 = .ok (.iload 4, 2) := by decide +kernel
theorem dX8_route_71 : decode cX8_route 71 = .ok (.ifCond .le 7, 3) := by decide +kernel
theorem dX8_route_74 : decode cX8_route 74 = .ok (.iconst 1, 1) := by decide +kernel
theorem dX8_route_75 : decode cX8_route 75 = .ok (.goto 31, 3) := by decide +kernel
theorem dX8_route_78 : decode cX8_route 78 = .ok (.iload 4, 2) := by decide +kernel
theorem dX8_route_80 : decode cX8_route 80 = .ok (.ifCond .ge 7, 3) := by decide +kernel
theorem dX8_route_83 : decode cX8_route 83 = .ok (.iconst 2, 1) := by decide +kernel
theorem dX8_route_84 : decode cX8_route 84 = .ok (.goto 22, 3) := by decide +kernel
theorem dX8_route_87 : decode cX8_route 87 = .ok (.iload 5, 2) := by decide +kernel
theorem dX8_route_89 : decode cX8_route 89 = .ok (.ifCond .le 7, 3) := by decide +kernel
theorem dX8_route_92 : decode cX8_route 92 = .ok (.iconst 3, 1) := by decide +kernel
theorem dX8_route_93 : decode cX8_route 93 = .ok (.goto 13, 3) := by decide +kernel
theorem dX8_route_96 : decode cX8_route 96 = .ok (.iload 5, 2) := by decide +kernel
theorem dX8_route_98 : decode cX8_route 98 = .ok (.ifCond .ge 7, 3) := by decide +kernel
theorem dX8_route_101 : decode cX8_route 101 = .ok (.iconst 4, 1) := by decide +kernel
theorem dX8_route_102 : decode cX8_route 102 = .ok (.goto 4, 3) := by decide +kernel
theorem dX8_route_105 : decode cX8_route 105 = .ok (.iconst 0, 1) := by decide +kernel
theorem dX8_route_106 : decode cX8_route 106 = .ok (.iastore, 1) := by decide +kernel
theorem dX8_route_107 : decode cX8_route 107 = .ok (.aload_n 0, 1) := by decide +kernel
theorem dX8_route_108 : decode cX8_route 108 = .ok (.getfield 74, 3) := by decide +kernel
theorem dX8_route_111 : decode cX8_route 111 = .ok (.iload_n 2, 1) := by decide +kernel
theorem dX8_route_112 : decode cX8_route 112 = .ok (.iconst 1, 1) := by decide +kernel
theorem dX8_route_113 : decode cX8_route 113 = .ok (.iastore, 1) := by decide +kernel
theorem dX8_route_114 : decode cX8_route 114 = .ok (.return_, 1) := by decide +kernel
theorem dX8_tick_0 : decode cX8_tick 0 = .ok (.aload_n 0, 1) := by decide +kernel
theorem dX8_tick_1 : decode cX8_tick 1 = .ok (.getfield 95, 3) := by decide +kernel
theorem dX8_tick_4 : decode cX8_tick 4 = .ok (.aload_n 0, 1) := by decide +kernel
theorem dX8_tick_5 : decode cX8_tick 5 = .ok (.getfield 99, 3) := by decide +kernel
theorem dX8_tick_8 : decode cX8_tick 8 = .ok (.imul, 1) := by decide +kernel
theorem dX8_tick_9 : decode cX8_tick 9 = .ok (.istore_n 1, 1) := by decide +kernel
theorem dX8_tick_10 : decode cX8_tick 10 = .ok (.aload_n 0, 1) := by decide +kernel
theorem dX8_tick_11 : decode cX8_tick 11 = .ok (.dup, 1) := by decide +kernel
theorem dX8_tick_12 : decode cX8_tick 12 = .ok (.getfield 134, 3) := by decide +kernel
theorem dX8_tick_15 : decode cX8_tick 15 = .ok (.iconst 1, 1) := by decide +kernel
theorem dX8_tick_16 : decode cX8_tick 16 = .ok (.iadd, 1) := by decide +kernel
theorem dX8_tick_17 : decode cX8_tick 17 = .ok (.putfield 134, 3) := by decide +kernel
theorem dX8_tick_20 : decode cX8_tick 20 = .ok (.aload_n 0, 1) := by decide +kernel
theorem dX8_tick_21 : decode cX8_tick 21 = .ok (.iconst 0, 1) := by decide +kernel
theorem dX8_tick_22 : decode cX8_tick 22 = .ok (.putfield 122, 3) := by decide +kernel
theorem dX8_tick_25 : decode cX8_tick 25 = .ok (.aload_n 0, 1) := by decide +kernel
theorem dX8_tick_26 : decode cX8_tick 26 = .ok (.invokevirtual 162, 3) := by decide +kernel
theorem dX8_tick_29 : decode cX8_tick 29 = .ok (.iconst 0, 1) := by decide +kernel
theorem dX8_tick_30 : decode cX8_tick 30 = .ok (.istore_n 2, 1) := by decide +kernel
theorem dX8_tick_31 : decode cX8_tick 31 = .ok (.iload_n 2, 1) := by decide +kernel
theorem dX8_tick_32 : decode cX8_tick 32 = .ok (.iload_n 1, 1) := by decide +kernel
theorem dX8_tick_33 : decode cX8_tick 33 = .ok (.if_icmp .ge 31, 3) := by decide +kernel
theorem dX8_tick_36 : decode cX8_tick 36 = .ok (.iconst 0, 1) := by decide +kernel
theorem dX8_tick_37 : decode cX8_tick 37 = .ok (.istore_n 3, 1) := by decide +kernel
theorem dX8_tick_38 : decode cX8_tick 38 = .ok (.iload_n 3, 1) := by decide +kernel
theorem dX8_tick_39 : decode cX8_tick 39 = .ok (.aload_n 0, 1) := by decide +kernel
theorem dX8_tick_40 : decode cX8_tick 40 = .ok (.getfield 108, 3) := by decide +kernel
theorem dX8_tick_43 : decode cX8_tick 43 = .ok (.if_icmp .ge 15, 3) := by decide +kernel
theorem dX8_tick_46 : decode cX8_tick 46 = .ok (.aload_n 0, 1) := by decide +kernel
theorem dX8_tick_47 : decode cX8_tick 47 = .ok (.iload_n 2, 1) := by decide +kernel
theorem dX8_tick_48 : decode cX8_tick 48 = .ok (.iload_n 3, 1) := by decide +kernel
theorem dX8_tick_49 : decode cX8_tick 49 = .ok (.invokevirtual 165, 3) := by decide +kernel
theorem dX8_tick_52 : decode cX8_tick 52 = .ok (.iinc 3 1, 3) := by decide +kernel
theorem dX8_tick_55 : decode cX8_tick 55 = .ok (.goto (-17), 3) := by decide +kernel
theorem dX8_tick_58 : decode cX8_tick 58 = .ok (.iinc 2 1, 3) := by decide +kernel
theorem dX8_tick_61 : decode cX8_tick 61 = .ok (.goto (-30), 3) := by decide +kernel
theorem dX8_tick_64 : decode cX8_tick 64 = .ok (.iconst 0, 1) := by decide +kernel
theorem dX8_tick_65 : decode cX8_tick 65 = .ok (.istore_n 2, 1) := by decide +kernel
theorem dX8_tick_66 : decode cX8_tick 66 = .ok (.iload_n 2, 1) := by decide +kernel
theorem dX8_tick_67 : decode cX8_tick 67 = .ok (.iload_n 1, 1) := by decide +kernel
theorem dX8_tick_68 : decode cX8_tick 68 = .ok (.if_icmp .ge 14, 3) := by decide +kernel
theorem dX8_tick_71 : decode cX8_tick 71 = .ok (.aload_n 0, 1) := by decide +kernel
theorem dX8_tick_72 : decode cX8_tick 72 = .ok (.iload_n 2, 1) := by decide +kernel
theorem dX8_tick_73 : decode cX8_tick 73 = .ok (.invokevirtual 168, 3) := by decide +kernel
theorem dX8_tick_76 : decode cX8_tick 76 = .ok (.iinc 2 1, 3) := by decide +kernel
theorem dX8_tick_79 : decode cX8_tick 79 = .ok (.goto (-13), 3) := by decide +kernel
theorem dX8_tick_82 : decode cX8_tick 82 = .ok (.iconst 0, 1) := by decide +kernel
theorem dX8_tick_83 : decode cX8_tick 83 = .ok (.istore_n 2, 1) := by decide +kernel
theorem dX8_tick_84 : decode cX8_tick 84 = .ok (.iload_n 2, 1) := by decide +kernel
theorem dX8_tick_85 : decode cX8_tick 85 = .ok (.iload_n 1, 1) := by decide +kernel
theorem dX8_tick_86 : decode cX8_tick 86 = .ok (.if_icmp .ge 14, 3) := by decide +kernel
theorem dX8_tick_89 : decode cX8_tick 89 = .ok (.aload_n 0, 1) := by decide +kernel
theorem dX8_tick_90 : decode cX8_tick 90 = .ok (.iload_n 2, 1) := by decide +kernel
theorem dX8_tick_91 : decode cX8_tick 91 = .ok (.invokevirtual 172, 3) := by decide +kernel
theorem dX8_tick_94 : decode cX8_tick 94 = .ok (.iinc 2 1, 3) := by decide +kernel
theorem dX8_tick_97 : decode cX8_tick 97 = .ok (.goto (-13), 3) := by decide +kernel
theorem dX8_tick_100 : decode cX8_tick 100 = .ok (.iconst 0, 1) := by decide +kernel
theorem dX8_tick_101 : decode cX8_tick 101 = .ok (.istore_n 2, 1) := by decide +kernel
theorem dX8_tick_102 : decode cX8_tick 102 = .ok (.iload_n 2, 1) := by decide +kernel
theorem dX8_tick_103 : decode cX8_tick 103 = .ok (.bipush 20, 2) := by decide +kernel
theorem dX8_tick_105 : decode cX8_tick 105 = .ok (.iload_n 1, 1) := by decide +kernel
theorem dX8_tick_106 : decode cX8_tick 106 = .ok (.imul, 1) := by decide +kernel
theorem dX8_tick_107 : decode cX8_tick 107 = .ok (.if_icmp .ge 35, 3) := by decide +kernel
theorem dX8_tick_110 : decode cX8_tick 110 = .ok (.iload_n 2, 1) := by decide +kernel
theorem dX8_tick_111 : decode cX8_tick 111 = .ok (.iconst 4, 1) := by decide +kernel
theorem dX8_tick_112 : decode cX8_tick 112 = .ok (.irem, 1) := by decide +kernel
theorem dX8_tick_113 : decode cX8_tick 113 = .ok (.aload_n 0, 1) := by decide +kernel
theorem dX8_tick_114 : decode cX8_tick 114 = .ok (.getfield 108, 3) := by decide +kernel
theorem dX8_tick_117 : decode cX8_tick 117 = .ok (.if_icmp .ge 19, 3) := by decide +kernel
theorem dX8_tick_120 : decode cX8_tick 120 = .ok (.aload_n 0, 1) := by decide +kernel
theorem dX8_tick_121 : decode cX8_tick 121 = .ok (.iload_n 2, 1) := by decide +kernel
theorem dX8_tick_122 : decode cX8_tick 122 = .ok (.bipush 20, 2) := by decide +kernel
theorem dX8_tick_124 : decode cX8_tick 124 = .ok (.idiv, 1) := by decide +kernel
theorem dX8_tick_125 : decode cX8_tick 125 = .ok (.iload_n 2, 1) := by decide +kernel
theorem dX8_tick_126 : decode cX8_tick 126 = .ok (.iconst 4, 1) := by decide +kernel
theorem dX8_tick_127 : decode cX8_tick 127 = .ok (.idiv, 1) := by decide +kernel
theorem dX8_tick_128 : decode cX8_tick 128 = .ok (.iconst 5, 1) := by decide +kernel
theorem dX8_tick_129 : decode cX8_tick 129 = .ok (.irem, 1) := by decide +kernel
theorem dX8_tick_130 : decode cX8_tick 130 = .ok (.iload_n 2, 1) := by decide +kernel
theorem dX8_tick_131 : decode cX8_tick 131 = .ok (.iconst 4, 1) := by decide +kernel
theorem dX8_tick_132 : decode cX8_tick 132 = .ok (.irem, 1) := by decide +kernel
theorem dX8_tick_133 : decode cX8_tick 133 = .ok (.invokevirtual 175, 3) := by decide +kernel
theorem dX8_tick_136 : decode cX8_tick 136 = .ok (.iinc 2 1, 3) := by decide +kernel
theorem dX8_tick_139 : decode cX8_tick 139 = .ok (.goto (-37), 3) := by decide +kernel
theorem dX8_tick_142 : decode cX8_tick 142 = .ok (.iconst 0, 1) := by decide +kernel
theorem dX8_tick_143 : decode cX8_tick 143 = .ok (.istore_n 2, 1) := by decide +kernel
theorem dX8_tick_144 : decode cX8_tick 144 = .ok (.iload_n 2, 1) := by decide +kernel
theorem dX8_tick_145 : decode cX8_tick 145 = .ok (.bipush 20, 2) := by decide +kernel
theorem dX8_tick_147 : decode cX8_tick 147 = .ok (.iload_n 1, 1) := by decide +kernel
theorem dX8_tick_148 : decode cX8_tick 148 = .ok (.imul, 1) := by decide +kernel
theorem dX8_tick_149 : decode cX8_tick 149 = .ok (.if_icmp .ge 18, 3) := by decide +kernel
theorem dX8_tick_152 : decode cX8_tick 152 = .ok (.aload_n 0, 1) := by decide +kernel
theorem dX8_tick_153 : decode cX8_tick 153 = .ok (.iload_n 2, 1) := by decide +kernel
theorem dX8_tick_154 : decode cX8_tick 154 = .ok (.bipush 20, 2) := by decide +kernel
theorem dX8_tick_156 : decode cX8_tick 156 = .ok (.idiv, 1) := by decide +kernel
theorem dX8_tick_157 : decode cX8_tick 157 = .ok (.iload_n 2, 1) := by decide +kernel
theorem dX8_tick_158 : decode cX8_tick 158 = .ok (.invokevirtual 179, 3) := by decide +kernel
theorem dX8_tick_161 : decode cX8_tick 161 = .ok (.iinc 2 1, 3) := by decide +kernel
theorem dX8_tick_164 : decode cX8_tick 164 = .ok (.goto (-20), 3) := by decide +kernel
theorem dX8_tick_167 : decode cX8_tick 167 = .ok (.return_, 1) := by decide +kernel
theorem dX8_run_0 : decode cX8_run 0 = .ok (.iload_n 1, 1) := by decide +kernel
theorem dX8_run_1 : decode cX8_run 1 = .ok (.ifCond .lt 9, 3) := by decide +kernel
theorem dX8_run_4 : decode cX8_run 4 = .ok (.iload_n 1, 1) := by decide +kernel
theorem dX8_run_5 : decode cX8_run 5 = .ok (.bipush 60, 2) := by decide +kernel
theorem dX8_run_7 : decode cX8_run 7 = .ok (.if_icmp .le 5, 3) := by decide +kernel
theorem dX8_run_10 : decode cX8_run 10 = .ok (.iconst (-1), 1) := by decide +kernel
theorem dX8_run_11 : decode cX8_run 11 = .ok (.ireturn, 1) := by decide +kernel
theorem dX8_run_12 : decode cX8_run 12 = .ok (.aload_n 0, 1) := by decide +kernel
theorem dX8_run_13 : decode cX8_run 13 = .ok (.getfield 131, 3) := by decide +kernel
theorem dX8_run_16 : decode cX8_run 16 = .ok (.istore_n 2, 1) := by decide +kernel
theorem dX8_run_17 : decode cX8_run 17 = .ok (.iconst 0, 1) := by decide +kernel
theorem dX8_run_18 : decode cX8_run 18 = .ok (.istore_n 3, 1) := by decide +kernel
theorem dX8_run_19 : decode cX8_run 19 = .ok (.iload_n 3, 1) := by decide +kernel
theorem dX8_run_20 : decode cX8_run 20 = .ok (.iload_n 1, 1) := by decide +kernel
theorem dX8_run_21 : decode cX8_run 21 = .ok (.if_icmp .ge 13, 3) := by decide +kernel
theorem dX8_run_24 : decode cX8_run 24 = .ok (.aload_n 0, 1) := by decide +kernel
theorem dX8_run_25 : decode cX8_run 25 = .ok (.invokevirtual 182, 3) := by decide +kernel
theorem dX8_run_28 : decode cX8_run 28 = .ok (.iinc 3 1, 3) := by decide +kernel
theorem dX8_run_31 : decode cX8_run 31 = .ok (.goto (-12), 3) := by decide +kernel
theorem dX8_run_34 : decode cX8_run 34 = .ok (.aload_n 0, 1) := by decide +kernel
theorem dX8_run_35 : decode cX8_run 35 = .ok (.getfield 131, 3) := by decide +kernel
theorem dX8_run_38 : decode cX8_run 38 = .ok (.iload_n 2, 1) := by decide +kernel
theorem dX8_run_39 : decode cX8_run 39 = .ok (.isub, 1) := by decide +kernel
theorem dX8_run_40 : decode cX8_run 40 = .ok (.ireturn, 1) := by decide +kernel
theorem dX8_ticks_0 : decode cX8_ticks 0 = .ok (.aload_n 0, 1) := by decide +kernel
theorem dX8_ticks_1 : decode cX8_ticks 1 = .ok (.getfield 134, 3) := by decide +kernel
theorem dX8_ticks_4 : decode cX8_ticks 4 = .ok (.ireturn, 1) := by decide +kernel
theorem dX8_replies_0 : decode cX8_replies 0 = .ok (.aload_n 0, 1) := by decide +kernel
theorem dX8_replies_1 : decode cX8_replies 1 = .ok (.getfield 131, 3) := by decide +kernel
theorem dX8_replies_4 : decode cX8_replies 4 = .ok (.ireturn, 1) := by decide +kernel
theorem dX8_reply_0 : decode cX8_reply 0 = .ok (.iload_n 1, 1) := by decide +kernel
theorem dX8_reply_1 : decode cX8_reply 1 = .ok (.ifCond .lt 20, 3) := by decide +kernel
theorem dX8_reply_4 : decode cX8_reply 4 = .ok (.iload_n 1, 1) := by decide +kernel
theorem dX8_reply_5 : decode cX8_reply 5 = .ok (.aload_n 0, 1) := by decide +kernel
theorem dX8_reply_6 : decode cX8_reply 6 = .ok (.getfield 131, 3) := by decide +kernel
theorem dX8_reply_9 : decode cX8_reply 9 = .ok (.if_icmp .ge 12, 3) := by decide +kernel
theorem dX8_reply_12 : decode cX8_reply 12 = .ok (.iload_n 2, 1) := by decide +kernel
theorem dX8_reply_13 : decode cX8_reply 13 = .ok (.ifCond .lt 8, 3) := by decide +kernel
theorem dX8_reply_16 : decode cX8_reply 16 = .ok (.iload_n 2, 1) := by decide +kernel
theorem dX8_reply_17 : decode cX8_reply 17 = .ok (.iconst 2, 1) := by decide +kernel
theorem dX8_reply_18 : decode cX8_reply 18 = .ok (.if_icmp .le 5, 3) := by decide +kernel
theorem dX8_reply_21 : decode cX8_reply 21 = .ok (.iconst (-1), 1) := by decide +kernel
theorem dX8_reply_22 : decode cX8_reply 22 = .ok (.ireturn, 1) := by decide +kernel
theorem dX8_reply_23 : decode cX8_reply 23 = .ok (.iload_n 2, 1) := by decide +kernel
theorem dX8_reply_24 : decode cX8_reply 24 = .ok (.ifCond .ne 12, 3) := by decide +kernel
theorem dX8_reply_27 : decode cX8_reply 27 = .ok (.aload_n 0, 1) := by decide +kernel
theorem dX8_reply_28 : decode cX8_reply 28 = .ok (.getfield 29, 3) := by decide +kernel
theorem dX8_reply_31 : decode cX8_reply 31 = .ok (.iload_n 1, 1) := by decide +kernel
theorem dX8_reply_32 : decode cX8_reply 32 = .ok (.iaload, 1) := by decide +kernel
theorem dX8_reply_33 : decode cX8_reply 33 = .ok (.goto 28, 3) := by decide +kernel
theorem dX8_reply_36 : decode cX8_reply 36 = .ok (.iload_n 2, 1) := by decide +kernel
theorem dX8_reply_37 : decode cX8_reply 37 = .ok (.iconst 1, 1) := by decide +kernel
theorem dX8_reply_38 : decode cX8_reply 38 = .ok (.if_icmp .ne 17, 3) := by decide +kernel
theorem dX8_reply_41 : decode cX8_reply 41 = .ok (.aload_n 0, 1) := by decide +kernel
theorem dX8_reply_42 : decode cX8_reply 42 = .ok (.getfield 26, 3) := by decide +kernel
theorem dX8_reply_45 : decode cX8_reply 45 = .ok (.aload_n 0, 1) := by decide +kernel
theorem dX8_reply_46 : decode cX8_reply 46 = .ok (.getfield 29, 3) := by decide +kernel
theorem dX8_reply_49 : decode cX8_reply 49 = .ok (.iload_n 1, 1) := by decide +kernel
theorem dX8_reply_50 : decode cX8_reply 50 = .ok (.iaload, 1) := by decide +kernel
theorem dX8_reply_51 : decode cX8_reply 51 = .ok (.iaload, 1) := by decide +kernel
theorem dX8_reply_52 : decode cX8_reply 52 = .ok (.goto 9, 3) := by decide +kernel
theorem dX8_reply_55 : decode cX8_reply 55 = .ok (.aload_n 0, 1) := by decide +kernel
theorem dX8_reply_56 : decode cX8_reply 56 = .ok (.getfield 32, 3) := by decide +kernel
theorem dX8_reply_59 : decode cX8_reply 59 = .ok (.iload_n 1, 1) := by decide +kernel
theorem dX8_reply_60 : decode cX8_reply 60 = .ok (.iaload, 1) := by decide +kernel
theorem dX8_reply_61 : decode cX8_reply 61 = .ok (.ireturn, 1) := by decide +kernel
theorem dX8_memory_0 : decode cX8_memory 0 = .ok (.aload_n 0, 1) := by decide +kernel
theorem dX8_memory_1 : decode cX8_memory 1 = .ok (.iload_n 1, 1) := by decide +kernel
theorem dX8_memory_2 : decode cX8_memory 2 = .ok (.invokevirtual 111, 3) := by decide +kernel
theorem dX8_memory_5 : decode cX8_memory 5 = .ok (.ifCond .eq 27, 3) := by decide +kernel
theorem dX8_memory_8 : decode cX8_memory 8 = .ok (.iload_n 2, 1) := by decide +kernel
theorem dX8_memory_9 : decode cX8_memory 9 = .ok (.ifCond .lt 23, 3) := by decide +kernel
theorem dX8_memory_12 : decode cX8_memory 12 = .ok (.iload_n 2, 1) := by decide +kernel
theorem dX8_memory_13 : decode cX8_memory 13 = .ok (.bipush 7, 2) := by decide +kernel
theorem dX8_memory_15 : decode cX8_memory 15 = .ok (.if_icmp .gt 17, 3) := by decide +kernel
theorem dX8_memory_18 : decode cX8_memory 18 = .ok (.aload_n 0, 1) := by decide +kernel
theorem dX8_memory_19 : decode cX8_memory 19 = .ok (.getfield 35, 3) := by decide +kernel
theorem dX8_memory_22 : decode cX8_memory 22 = .ok (.bipush 8, 2) := by decide +kernel
theorem dX8_memory_24 : decode cX8_memory 24 = .ok (.iload_n 1, 1) := by decide +kernel
theorem dX8_memory_25 : decode cX8_memory 25 = .ok (.imul, 1) := by decide +kernel
theorem dX8_memory_26 : decode cX8_memory 26 = .ok (.iload_n 2, 1) := by decide +kernel
theorem dX8_memory_27 : decode cX8_memory 27 = .ok (.iadd, 1) := by decide +kernel
theorem dX8_memory_28 : decode cX8_memory 28 = .ok (.iaload, 1) := by decide +kernel
theorem dX8_memory_29 : decode cX8_memory 29 = .ok (.goto 4, 3) := by decide +kernel
theorem dX8_memory_32 : decode cX8_memory 32 = .ok (.iconst 0, 1) := by decide +kernel
theorem dX8_memory_33 : decode cX8_memory 33 = .ok (.ireturn, 1) := by decide +kernel
theorem dX8_waiting_0 : decode cX8_waiting 0 = .ok (.aload_n 0, 1) := by decide +kernel
theorem dX8_waiting_1 : decode cX8_waiting 1 = .ok (.iload_n 1, 1) := by decide +kernel
theorem dX8_waiting_2 : decode cX8_waiting 2 = .ok (.invokevirtual 111, 3) := by decide +kernel
theorem dX8_waiting_5 : decode cX8_waiting 5 = .ok (.ifCond .eq 22, 3) := by decide +kernel
theorem dX8_waiting_8 : decode cX8_waiting 8 = .ok (.aload_n 0, 1) := by decide +kernel
theorem dX8_waiting_9 : decode cX8_waiting 9 = .ok (.getfield 41, 3) := by decide +kernel
theorem dX8_waiting_12 : decode cX8_waiting 12 = .ok (.iload_n 1, 1) := by decide +kernel
theorem dX8_waiting_13 : decode cX8_waiting 13 = .ok (.iaload, 1) := by decide +kernel
theorem dX8_waiting_14 : decode cX8_waiting 14 = .ok (.bipush 8, 2) := by decide +kernel
theorem dX8_waiting_16 : decode cX8_waiting 16 = .ok (.aload_n 0, 1) := by decide +kernel
theorem dX8_waiting_17 : decode cX8_waiting 17 = .ok (.getfield 50, 3) := by decide +kernel
theorem dX8_waiting_20 : decode cX8_waiting 20 = .ok (.iload_n 1, 1) := by decide +kernel
theorem dX8_waiting_21 : decode cX8_waiting 21 = .ok (.iaload, 1) := by decide +kernel
theorem dX8_waiting_22 : decode cX8_waiting 22 = .ok (.imul, 1) := by decide +kernel
theorem dX8_waiting_23 : decode cX8_waiting 23 = .ok (.iadd, 1) := by decide +kernel
theorem dX8_waiting_24 : decode cX8_waiting 24 = .ok (.goto 4, 3) := by decide +kernel
theorem dX8_waiting_27 : decode cX8_waiting 27 = .ok (.iconst (-1), 1) := by decide +kernel
theorem dX8_waiting_28 : decode cX8_waiting 28 = .ok (.ireturn, 1) := by decide +kernel
theorem dX8_lane_0 : decode cX8_lane 0 = .ok (.aload_n 0, 1) := by decide +kernel
theorem dX8_lane_1 : decode cX8_lane 1 = .ok (.iload_n 1, 1) := by decide +kernel
theorem dX8_lane_2 : decode cX8_lane 2 = .ok (.iload_n 2, 1) := by decide +kernel
theorem dX8_lane_3 : decode cX8_lane 3 = .ok (.iload_n 3, 1) := by decide +kernel
theorem dX8_lane_4 : decode cX8_lane 4 = .ok (.invokevirtual 185, 3) := by decide +kernel
theorem dX8_lane_7 : decode cX8_lane 7 = .ok (.ifCond .ne 5, 3) := by decide +kernel
theorem dX8_lane_10 : decode cX8_lane 10 = .ok (.iconst (-1), 1) := by decide +kernel
theorem dX8_lane_11 : decode cX8_lane 11 = .ok (.ireturn, 1) := by decide +kernel
theorem dX8_lane_12 : decode cX8_lane 12 = .ok (.iconst 4, 1) := by decide +kernel
theorem dX8_lane_13 : decode cX8_lane 13 = .ok (.iconst 5, 1) := by decide +kernel
theorem dX8_lane_14 : decode cX8_lane 14 = .ok (.iload_n 1, 1) := by decide +kernel
theorem dX8_lane_15 : decode cX8_lane 15 = .ok (.imul, 1) := by decide +kernel
theorem dX8_lane_16 : decode cX8_lane 16 = .ok (.iload_n 2, 1) := by decide +kernel
theorem dX8_lane_17 : decode cX8_lane 17 = .ok (.iadd, 1) := by decide +kernel
theorem dX8_lane_18 : decode cX8_lane 18 = .ok (.imul, 1) := by decide +kernel
theorem dX8_lane_19 : decode cX8_lane 19 = .ok (.iload_n 3, 1) := by decide +kernel
theorem dX8_lane_20 : decode cX8_lane 20 = .ok (.iadd, 1) := by decide +kernel
theorem dX8_lane_21 : decode cX8_lane 21 = .ok (.istore 4, 2) := by decide +kernel
theorem dX8_lane_23 : decode cX8_lane 23 = .ok (.aload_n 0, 1) := by decide +kernel
theorem dX8_lane_24 : decode cX8_lane 24 = .ok (.getfield 59, 3) := by decide +kernel
theorem dX8_lane_27 : decode cX8_lane 27 = .ok (.iload 4, 2) := by decide +kernel
theorem dX8_lane_29 : decode cX8_lane 29 = .ok (.iaload, 1) := by decide +kernel
theorem dX8_lane_30 : decode cX8_lane 30 = .ok (.bipush 8, 2) := by decide +kernel
theorem dX8_lane_32 : decode cX8_lane 32 = .ok (.aload_n 0, 1) := by decide +kernel
theorem dX8_lane_33 : decode cX8_lane 33 = .ok (.getfield 74, 3) := by decide +kernel
theorem dX8_lane_36 : decode cX8_lane 36 = .ok (.iload 4, 2) := by decide +kernel
theorem dX8_lane_38 : decode cX8_lane 38 = .ok (.iaload, 1) := by decide +kernel
theorem dX8_lane_39 : decode cX8_lane 39 = .ok (.imul, 1) := by decide +kernel
theorem dX8_lane_40 : decode cX8_lane 40 = .ok (.iadd, 1) := by decide +kernel
theorem dX8_lane_41 : decode cX8_lane 41 = .ok (.aload_n 0, 1) := by decide +kernel
theorem dX8_lane_42 : decode cX8_lane 42 = .ok (.getfield 74, 3) := by decide +kernel
theorem dX8_lane_45 : decode cX8_lane 45 = .ok (.iload 4, 2) := by decide +kernel
theorem dX8_lane_47 : decode cX8_lane 47 = .ok (.iaload, 1) := by decide +kernel
theorem dX8_lane_48 : decode cX8_lane 48 = .ok (.ifCond .ne 7, 3) := by decide +kernel
theorem dX8_lane_51 : decode cX8_lane 51 = .ok (.iconst 0, 1) := by decide +kernel
theorem dX8_lane_52 : decode cX8_lane 52 = .ok (.goto 13, 3) := by decide +kernel
theorem dX8_lane_55 : decode cX8_lane 55 = .ok (.bipush 64, 2) := by decide +kernel
theorem dX8_lane_57 : decode cX8_lane 57 = .ok (.aload_n 0, 1) := by decide +kernel
theorem dX8_lane_58 : decode cX8_lane 58 = .ok (.getfield 77, 3) := by decide +kernel
theorem dX8_lane_61 : decode cX8_lane 61 = .ok (.iload 4, 2) := by decide +kernel
theorem dX8_lane_63 : decode cX8_lane 63 = .ok (.iaload, 1) := by decide +kernel
theorem dX8_lane_64 : decode cX8_lane 64 = .ok (.imul, 1) := by decide +kernel
theorem dX8_lane_65 : decode cX8_lane 65 = .ok (.iadd, 1) := by decide +kernel
theorem dX8_lane_66 : decode cX8_lane 66 = .ok (.ireturn, 1) := by decide +kernel
theorem dX8_leads_0 : decode cX8_leads 0 = .ok (.iload_n 1, 1) := by decide +kernel
theorem dX8_leads_1 : decode cX8_leads 1 = .ok (.aload_n 0, 1) := by decide +kernel
theorem dX8_leads_2 : decode cX8_leads 2 = .ok (.getfield 95, 3) := by decide +kernel
theorem dX8_leads_5 : decode cX8_leads 5 = .ok (.irem, 1) := by decide +kernel
theorem dX8_leads_6 : decode cX8_leads 6 = .ok (.istore_n 3, 1) := by decide +kernel
theorem dX8_leads_7 : decode cX8_leads 7 = .ok (.iload_n 1, 1) := by decide +kernel
theorem dX8_leads_8 : decode cX8_leads 8 = .ok (.aload_n 0, 1) := by decide +kernel
theorem dX8_leads_9 : decode cX8_leads 9 = .ok (.getfield 95, 3) := by decide +kernel
theorem dX8_leads_12 : decode cX8_leads 12 = .ok (.idiv, 1) := by decide +kernel
theorem dX8_leads_13 : decode cX8_leads 13 = .ok (.istore 4, 2) := by decide +kernel
theorem dX8_leads_15 : decode cX8_leads 15 = .ok (.iload_n 2, 1) := by decide +kernel
theorem dX8_leads_16 : decode cX8_leads 16 = .ok (.ifCond .eq 53, 3) := by decide +kernel
theorem dX8_leads_19 : decode cX8_leads 19 = .ok (.iload_n 2, 1) := by decide +kernel
theorem dX8_leads_20 : decode cX8_leads 20 = .ok (.iconst 1, 1) := by decide +kernel
theorem dX8_leads_21 : decode cX8_leads 21 = .ok (.if_icmp .ne 13, 3) := by decide +kernel
theorem dX8_leads_24 : decode cX8_leads 24 = .ok (.iload_n 3, 1) := by decide +kernel
theorem dX8_leads_25 : decode cX8_leads 25 = .ok (.aload_n 0, 1) := by decide +kernel
theorem dX8_leads_26 : decode cX8_leads 26 = .ok (.getfield 95, 3) := by decide +kernel
theorem dX8_leads_29 : decode cX8_leads 29 = .ok (.iconst 1, 1) := by decide +kernel
theorem dX8_leads_30 : decode cX8_leads 30 = .ok (.isub, 1) := by decide +kernel
theorem dX8_leads_31 : decode cX8_leads 31 = .ok (.if_icmp .lt 38, 3) := by decide +kernel
theorem dX8_leads_34 : decode cX8_leads 34 = .ok (.iload_n 2, 1) := by decide +kernel
theorem dX8_leads_35 : decode cX8_leads 35 = .ok (.iconst 2, 1) := by decide +kernel
theorem dX8_leads_36 : decode cX8_leads 36 = .ok (.if_icmp .ne 7, 3) := by decide +kernel
theorem dX8_leads_39 : decode cX8_leads 39 = .ok (.iload_n 3, 1) := by decide +kernel
theorem dX8_leads_40 : decode cX8_leads 40 = .ok (.ifCond .gt 29, 3) := by decide +kernel
theorem dX8_leads_43 : decode cX8_leads 43 = .ok (.iload_n 2, 1) := by decide +kernel
theorem dX8_leads_44 : decode cX8_leads 44 = .ok (.iconst 3, 1) := by decide +kernel
theorem dX8_leads_45 : decode cX8_leads 45 = .ok (.if_icmp .ne 14, 3) := by decide +kernel
theorem dX8_leads_48 : decode cX8_leads 48 = .ok (.iload 4, 2) := by decide +kernel
theorem dX8_leads_50 : decode cX8_leads 50 = .ok (.aload_n 0, 1) := by decide +kernel
theorem dX8_leads_51 : decode cX8_leads 51 = .ok (.getfield 99, 3) := by decide +kernel
theorem dX8_leads_54 : decode cX8_leads 54 = .ok (.iconst 1, 1) := by decide +kernel
theorem dX8_leads_55 : decode cX8_leads 55 = .ok (.isub, 1) := by decide +kernel
theorem dX8_leads_56 : decode cX8_leads 56 = .ok (.if_icmp .lt 13, 3) := by decide +kernel
theorem dX8_leads_59 : decode cX8_leads 59 = .ok (.iload_n 2, 1) := by decide +kernel
theorem dX8_leads_60 : decode cX8_leads 60 = .ok (.iconst 4, 1) := by decide +kernel
theorem dX8_leads_61 : decode cX8_leads 61 = .ok (.if_icmp .ne 12, 3) := by decide +kernel
theorem dX8_leads_64 : decode cX8_leads 64 = .ok (.iload 4, 2) := by decide +kernel
theorem dX8_leads_66 : decode cX8_leads 66 = .ok (.ifCond .le 7, 3) := by decide +kernel
theorem dX8_leads_69 : decode cX8_leads 69 = .ok (.iconst 1, 1) := by decide +kernel
theorem dX8_leads_70 : decode cX8_leads 70 = .ok (.goto 4, 3) := by decide +kernel
theorem dX8_leads_73 : decode cX8_leads 73 = .ok (.iconst 0, 1) := by decide +kernel
theorem dX8_leads_74 : decode cX8_leads 74 = .ok (.ireturn, 1) := by decide +kernel
theorem dX8_output_0 : decode cX8_output 0 = .ok (.aload_n 0, 1) := by decide +kernel
theorem dX8_output_1 : decode cX8_output 1 = .ok (.iload_n 1, 1) := by decide +kernel
theorem dX8_output_2 : decode cX8_output 2 = .ok (.iload_n 2, 1) := by decide +kernel
theorem dX8_output_3 : decode cX8_output 3 = .ok (.iload_n 3, 1) := by decide +kernel
theorem dX8_output_4 : decode cX8_output 4 = .ok (.invokevirtual 185, 3) := by decide +kernel
theorem dX8_output_7 : decode cX8_output 7 = .ok (.ifCond .ne 5, 3) := by decide +kernel
theorem dX8_output_10 : decode cX8_output 10 = .ok (.iconst (-1), 1) := by decide +kernel
theorem dX8_output_11 : decode cX8_output 11 = .ok (.ireturn, 1) := by decide +kernel
theorem dX8_output_12 : decode cX8_output 12 = .ok (.aload_n 0, 1) := by decide +kernel
theorem dX8_output_13 : decode cX8_output 13 = .ok (.iload_n 1, 1) := by decide +kernel
theorem dX8_output_14 : decode cX8_output 14 = .ok (.iload_n 2, 1) := by decide +kernel
theorem dX8_output_15 : decode cX8_output 15 = .ok (.invokevirtual 188, 3) := by decide +kernel
theorem dX8_output_18 : decode cX8_output 18 = .ok (.ifCond .eq 18, 3) := by decide +kernel
theorem dX8_output_21 : decode cX8_output 21 = .ok (.aload_n 0, 1) := by decide +kernel
theorem dX8_output_22 : decode cX8_output 22 = .ok (.getfield 68, 3) := by decide +kernel
theorem dX8_output_25 : decode cX8_output 25 = .ok (.aload_n 0, 1) := by decide +kernel
theorem dX8_output_26 : decode cX8_output 26 = .ok (.iload_n 1, 1) := by decide +kernel
theorem dX8_output_27 : decode cX8_output 27 = .ok (.iload_n 2, 1) := by decide +kernel
theorem dX8_output_28 : decode cX8_output 28 = .ok (.iload_n 3, 1) := by decide +kernel
theorem dX8_output_29 : decode cX8_output 29 = .ok (.invokevirtual 144, 3) := by decide +kernel
theorem dX8_output_32 : decode cX8_output 32 = .ok (.iaload, 1) := by decide +kernel
theorem dX8_output_33 : decode cX8_output 33 = .ok (.goto 7, 3) := by decide +kernel
theorem dX8_output_36 : decode cX8_output 36 = .ok (.aload_n 0, 1) := by decide +kernel
theorem dX8_output_37 : decode cX8_output 37 = .ok (.getfield 102, 3) := by decide +kernel
theorem dX8_output_40 : decode cX8_output 40 = .ok (.istore 4, 2) := by decide +kernel
theorem dX8_output_42 : decode cX8_output 42 = .ok (.iload 4, 2) := by decide +kernel
theorem dX8_output_44 : decode cX8_output 44 = .ok (.aload_n 0, 1) := by decide +kernel
theorem dX8_output_45 : decode cX8_output 45 = .ok (.getfield 80, 3) := by decide +kernel
theorem dX8_output_48 : decode cX8_output 48 = .ok (.iconst 4, 1) := by decide +kernel
theorem dX8_output_49 : decode cX8_output 49 = .ok (.iconst 5, 1) := by decide +kernel
theorem dX8_output_50 : decode cX8_output 50 = .ok (.iload_n 1, 1) := by decide +kernel
theorem dX8_output_51 : decode cX8_output 51 = .ok (.imul, 1) := by decide +kernel
theorem dX8_output_52 : decode cX8_output 52 = .ok (.iload_n 2, 1) := by decide +kernel
theorem dX8_output_53 : decode cX8_output 53 = .ok (.iadd, 1) := by decide +kernel
theorem dX8_output_54 : decode cX8_output 54 = .ok (.imul, 1) := by decide +kernel
theorem dX8_output_55 : decode cX8_output 55 = .ok (.iload_n 3, 1) := by decide +kernel
theorem dX8_output_56 : decode cX8_output 56 = .ok (.iadd, 1) := by decide +kernel
theorem dX8_output_57 : decode cX8_output 57 = .ok (.baload, 1) := by decide +kernel
theorem dX8_output_58 : decode cX8_output 58 = .ok (.ifCond .eq 8, 3) := by decide +kernel
theorem dX8_output_61 : decode cX8_output 61 = .ok (.bipush 8, 2) := by decide +kernel
theorem dX8_output_63 : decode cX8_output 63 = .ok (.goto 4, 3) := by decide +kernel
theorem dX8_output_66 : decode cX8_output 66 = .ok (.iconst 0, 1) := by decide +kernel
theorem dX8_output_67 : decode cX8_output 67 = .ok (.iadd, 1) := by decide +kernel
theorem dX8_output_68 : decode cX8_output 68 = .ok (.ireturn, 1) := by decide +kernel
theorem dX8_arrival_0 : decode cX8_arrival 0 = .ok (.aload_n 0, 1) := by decide +kernel
theorem dX8_arrival_1 : decode cX8_arrival 1 = .ok (.iload_n 1, 1) := by decide +kernel
theorem dX8_arrival_2 : decode cX8_arrival 2 = .ok (.iconst 0, 1) := by decide +kernel
theorem dX8_arrival_3 : decode cX8_arrival 3 = .ok (.iload_n 2, 1) := by decide +kernel
theorem dX8_arrival_4 : decode cX8_arrival 4 = .ok (.invokevirtual 185, 3) := by decide +kernel
theorem dX8_arrival_7 : decode cX8_arrival 7 = .ok (.ifCond .ne 5, 3) := by decide +kernel
theorem dX8_arrival_10 : decode cX8_arrival 10 = .ok (.iconst (-1), 1) := by decide +kernel
theorem dX8_arrival_11 : decode cX8_arrival 11 = .ok (.ireturn, 1) := by decide +kernel
theorem dX8_arrival_12 : decode cX8_arrival 12 = .ok (.aload_n 0, 1) := by decide +kernel
theorem dX8_arrival_13 : decode cX8_arrival 13 = .ok (.getfield 59, 3) := by decide +kernel
theorem dX8_arrival_16 : decode cX8_arrival 16 = .ok (.sipush 180, 3) := by decide +kernel
theorem dX8_arrival_19 : decode cX8_arrival 19 = .ok (.iconst 4, 1) := by decide +kernel
theorem dX8_arrival_20 : decode cX8_arrival 20 = .ok (.iload_n 1, 1) := by decide +kernel
theorem dX8_arrival_21 : decode cX8_arrival 21 = .ok (.imul, 1) := by decide +kernel
theorem dX8_arrival_22 : decode cX8_arrival 22 = .ok (.iadd, 1) := by decide +kernel
theorem dX8_arrival_23 : decode cX8_arrival 23 = .ok (.iload_n 2, 1) := by decide +kernel
theorem dX8_arrival_24 : decode cX8_arrival 24 = .ok (.iadd, 1) := by decide +kernel
theorem dX8_arrival_25 : decode cX8_arrival 25 = .ok (.iaload, 1) := by decide +kernel
theorem dX8_arrival_26 : decode cX8_arrival 26 = .ok (.bipush 8, 2) := by decide +kernel
theorem dX8_arrival_28 : decode cX8_arrival 28 = .ok (.aload_n 0, 1) := by decide +kernel
theorem dX8_arrival_29 : decode cX8_arrival 29 = .ok (.getfield 68, 3) := by decide +kernel
theorem dX8_arrival_32 : decode cX8_arrival 32 = .ok (.bipush 20, 2) := by decide +kernel
theorem dX8_arrival_34 : decode cX8_arrival 34 = .ok (.iload_n 1, 1) := by decide +kernel
theorem dX8_arrival_35 : decode cX8_arrival 35 = .ok (.imul, 1) := by decide +kernel
theorem dX8_arrival_36 : decode cX8_arrival 36 = .ok (.iload_n 2, 1) := by decide +kernel
theorem dX8_arrival_37 : decode cX8_arrival 37 = .ok (.iadd, 1) := by decide +kernel
theorem dX8_arrival_38 : decode cX8_arrival 38 = .ok (.iaload, 1) := by decide +kernel
theorem dX8_arrival_39 : decode cX8_arrival 39 = .ok (.imul, 1) := by decide +kernel
theorem dX8_arrival_40 : decode cX8_arrival 40 = .ok (.iadd, 1) := by decide +kernel
theorem dX8_arrival_41 : decode cX8_arrival 41 = .ok (.ireturn, 1) := by decide +kernel
theorem dX8_sent_0 : decode cX8_sent 0 = .ok (.aload_n 0, 1) := by decide +kernel
theorem dX8_sent_1 : decode cX8_sent 1 = .ok (.getfield 122, 3) := by decide +kernel
theorem dX8_sent_4 : decode cX8_sent 4 = .ok (.ireturn, 1) := by decide +kernel
