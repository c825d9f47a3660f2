theorem dX8_readOnce_66 : decode cX8_readOnce 66 = .ok (.iload_n 1, 1) := by decide +kernel
theorem dX8_readOnce_67 : decode cX8_readOnce 67 = .ok (.iconst 3, 1) := by decide +kernel
theorem dX8_readOnce_68 : decode cX8_readOnce 68 = .ok (.if_icmp .ne 30, 3) := by decide +kernel
theorem dX8_readOnce_71 : decode cX8_readOnce 71 = .ok (.aload_n 0, 1) := by decide +kernel
theorem dX8_readOnce_72 : decode cX8_readOnce 72 = .ok (.getfield 22, 3) := by decide +kernel
theorem dX8_readOnce_75 : decode cX8_readOnce 75 = .ok (.iconst 4, 1) := by decide +kernel
theorem dX8_readOnce_76 : decode cX8_readOnce 76 = .ok (.aload_n 0, 1) := by decide +kernel
theorem dX8_readOnce_77 : decode cX8_readOnce 77 = .ok (.iconst 0, 1) := by decide +kernel
theorem dX8_readOnce_78 : decode cX8_readOnce 78 = .ok (.iconst 2, 1) := by decide +kernel
theorem dX8_readOnce_79 : decode cX8_readOnce 79 = .ok (.invokevirtual 120, 3) := by decide +kernel
theorem dX8_readOnce_82 : decode cX8_readOnce 82 = .ok (.iastore, 1) := by decide +kernel
theorem dX8_readOnce_83 : decode cX8_readOnce 83 = .ok (.aload_n 0, 1) := by decide +kernel
theorem dX8_readOnce_84 : decode cX8_readOnce 84 = .ok (.getfield 22, 3) := by decide +kernel
theorem dX8_readOnce_87 : decode cX8_readOnce 87 = .ok (.iconst 5, 1) := by decide +kernel
theorem dX8_readOnce_88 : decode cX8_readOnce 88 = .ok (.aload_n 0, 1) := by decide +kernel
theorem dX8_readOnce_89 : decode cX8_readOnce 89 = .ok (.iconst 0, 1) := by decide +kernel
theorem dX8_readOnce_90 : decode cX8_readOnce 90 = .ok (.iconst 2, 1) := by decide +kernel
theorem dX8_readOnce_91 : decode cX8_readOnce 91 = .ok (.invokevirtual 120, 3) := by decide +kernel
theorem dX8_readOnce_94 : decode cX8_readOnce 94 = .ok (.iastore, 1) := by decide +kernel
theorem dX8_readOnce_95 : decode cX8_readOnce 95 = .ok (.goto 18, 3) := by decide +kernel
theorem dX8_readOnce_98 : decode cX8_readOnce 98 = .ok (.aload_n 0, 1) := by decide +kernel
theorem dX8_readOnce_99 : decode cX8_readOnce 99 = .ok (.getfield 22, 3) := by decide +kernel
theorem dX8_readOnce_102 : decode cX8_readOnce 102 = .ok (.iload_n 1, 1) := by decide +kernel
theorem dX8_readOnce_103 : decode cX8_readOnce 103 = .ok (.iconst 1, 1) := by decide +kernel
theorem dX8_readOnce_104 : decode cX8_readOnce 104 = .ok (.iadd, 1) := by decide +kernel
theorem dX8_readOnce_105 : decode cX8_readOnce 105 = .ok (.aload_n 0, 1) := by decide +kernel
theorem dX8_readOnce_106 : decode cX8_readOnce 106 = .ok (.iconst 1, 1) := by decide +kernel
theorem dX8_readOnce_107 : decode cX8_readOnce 107 = .ok (.bipush 9, 2) := by decide +kernel
theorem dX8_readOnce_109 : decode cX8_readOnce 109 = .ok (.invokevirtual 120, 3) := by decide +kernel
theorem dX8_readOnce_112 : decode cX8_readOnce 112 = .ok (.iastore, 1) := by decide +kernel
theorem dX8_readOnce_113 : decode cX8_readOnce 113 = .ok (.return_, 1) := by decide +kernel
theorem dX8_readLine_0 : decode cX8_readLine 0 = .ok (.aload_n 0, 1) := by decide +kernel
theorem dX8_readLine_1 : decode cX8_readLine 1 = .ok (.invokevirtual 133, 3) := by decide +kernel
theorem dX8_readLine_4 : decode cX8_readLine 4 = .ok (.istore_n 1, 1) := by decide +kernel
theorem dX8_readLine_5 : decode cX8_readLine 5 = .ok (.iload_n 1, 1) := by decide +kernel
theorem dX8_readLine_6 : decode cX8_readLine 6 = .ok (.bipush (-4), 2) := by decide +kernel
theorem dX8_readLine_8 : decode cX8_readLine 8 = .ok (.if_icmp .ne 9, 3) := by decide +kernel
theorem dX8_readLine_11 : decode cX8_readLine 11 = .ok (.aload_n 0, 1) := by decide +kernel
theorem dX8_readLine_12 : decode cX8_readLine 12 = .ok (.iconst 2, 1) := by decide +kernel
theorem dX8_readLine_13 : decode cX8_readLine 13 = .ok (.invokevirtual 113, 3) := by decide +kernel
theorem dX8_readLine_16 : decode cX8_readLine 16 = .ok (.return_, 1) := by decide +kernel
theorem dX8_readLine_17 : decode cX8_readLine 17 = .ok (.iload_n 1, 1) := by decide +kernel
theorem dX8_readLine_18 : decode cX8_readLine 18 = .ok (.iconst 3, 1) := by decide +kernel
theorem dX8_readLine_19 : decode cX8_readLine 19 = .ok (.if_icmp .gt 11, 3) := by decide +kernel
theorem dX8_readLine_22 : decode cX8_readLine 22 = .ok (.aload_n 0, 1) := by decide +kernel
theorem dX8_readLine_23 : decode cX8_readLine 23 = .ok (.iload_n 1, 1) := by decide +kernel
theorem dX8_readLine_24 : decode cX8_readLine 24 = .ok (.invokevirtual 137, 3) := by decide +kernel
theorem dX8_readLine_27 : decode cX8_readLine 27 = .ok (.goto 205, 3) := by decide +kernel
theorem dX8_readLine_30 : decode cX8_readLine 30 = .ok (.iload_n 1, 1) := by decide +kernel
theorem dX8_readLine_31 : decode cX8_readLine 31 = .ok (.iconst 4, 1) := by decide +kernel
theorem dX8_readLine_32 : decode cX8_readLine 32 = .ok (.if_icmp .ne 15, 3) := by decide +kernel
theorem dX8_readLine_35 : decode cX8_readLine 35 = .ok (.aload_n 0, 1) := by decide +kernel
theorem dX8_readLine_36 : decode cX8_readLine 36 = .ok (.getfield 140, 3) := by decide +kernel
theorem dX8_readLine_39 : decode cX8_readLine 39 = .ok (.bipush 6, 2) := by decide +kernel
theorem dX8_readLine_41 : decode cX8_readLine 41 = .ok (.if_icmp .ne 39, 3) := by decide +kernel
theorem dX8_readLine_44 : decode cX8_readLine 44 = .ok (.goto 28, 3) := by decide +kernel
theorem dX8_readLine_47 : decode cX8_readLine 47 = .ok (.iload_n 1, 1) := by decide +kernel
theorem dX8_readLine_48 : decode cX8_readLine 48 = .ok (.iconst 5, 1) := by decide +kernel
theorem dX8_readLine_49 : decode cX8_readLine 49 = .ok (.if_icmp .ne 14, 3) := by decide +kernel
theorem dX8_readLine_52 : decode cX8_readLine 52 = .ok (.aload_n 0, 1) := by decide +kernel
theorem dX8_readLine_53 : decode cX8_readLine 53 = .ok (.getfield 143, 3) := by decide +kernel
theorem dX8_readLine_56 : decode cX8_readLine 56 = .ok (.iconst 3, 1) := by decide +kernel
theorem dX8_readLine_57 : decode cX8_readLine 57 = .ok (.if_icmp .ne 23, 3) := by decide +kernel
theorem dX8_readLine_60 : decode cX8_readLine 60 = .ok (.goto 12, 3) := by decide +kernel
theorem dX8_readLine_63 : decode cX8_readLine 63 = .ok (.aload_n 0, 1) := by decide +kernel
theorem dX8_readLine_64 : decode cX8_readLine 64 = .ok (.getfield 146, 3) := by decide +kernel
theorem dX8_readLine_67 : decode cX8_readLine 67 = .ok (.bipush 12, 2) := by decide +kernel
theorem dX8_readLine_69 : decode cX8_readLine 69 = .ok (.if_icmp .ne 11, 3) := by decide +kernel
theorem dX8_readLine_72 : decode cX8_readLine 72 = .ok (.aload_n 0, 1) := by decide +kernel
theorem dX8_readLine_73 : decode cX8_readLine 73 = .ok (.iconst 5, 1) := by decide +kernel
theorem dX8_readLine_74 : decode cX8_readLine 74 = .ok (.invokevirtual 113, 3) := by decide +kernel
theorem dX8_readLine_77 : decode cX8_readLine 77 = .ok (.goto 155, 3) := by decide +kernel
theorem dX8_readLine_80 : decode cX8_readLine 80 = .ok (.aload_n 0, 1) := by decide +kernel
theorem dX8_readLine_81 : decode cX8_readLine 81 = .ok (.invokevirtual 117, 3) := by decide +kernel
theorem dX8_readLine_84 : decode cX8_readLine 84 = .ok (.iload_n 1, 1) := by decide +kernel
theorem dX8_readLine_85 : decode cX8_readLine 85 = .ok (.iconst 4, 1) := by decide +kernel
theorem dX8_readLine_86 : decode cX8_readLine 86 = .ok (.if_icmp .ne 48, 3) := by decide +kernel
theorem dX8_readLine_89 : decode cX8_readLine 89 = .ok (.aload_n 0, 1) := by decide +kernel
theorem dX8_readLine_90 : decode cX8_readLine 90 = .ok (.iconst 1, 1) := by decide +kernel
theorem dX8_readLine_91 : decode cX8_readLine 91 = .ok (.iconst 2, 1) := by decide +kernel
theorem dX8_readLine_92 : decode cX8_readLine 92 = .ok (.aload_n 0, 1) := by decide +kernel
theorem dX8_readLine_93 : decode cX8_readLine 93 = .ok (.getfield 140, 3) := by decide +kernel
theorem dX8_readLine_96 : decode cX8_readLine 96 = .ok (.imul, 1) := by decide +kernel
theorem dX8_readLine_97 : decode cX8_readLine 97 = .ok (.invokevirtual 149, 3) := by decide +kernel
theorem dX8_readLine_100 : decode cX8_readLine 100 = .ok (.aload_n 0, 1) := by decide +kernel
theorem dX8_readLine_101 : decode cX8_readLine 101 = .ok (.getfield 25, 3) := by decide +kernel
theorem dX8_readLine_104 : decode cX8_readLine 104 = .ok (.iconst 2, 1) := by decide +kernel
theorem dX8_readLine_105 : decode cX8_readLine 105 = .ok (.aload_n 0, 1) := by decide +kernel
theorem dX8_readLine_106 : decode cX8_readLine 106 = .ok (.getfield 140, 3) := by decide +kernel
theorem dX8_readLine_109 : decode cX8_readLine 109 = .ok (.imul, 1) := by decide +kernel
theorem dX8_readLine_110 : decode cX8_readLine 110 = .ok (.iconst 1, 1) := by decide +kernel
theorem dX8_readLine_111 : decode cX8_readLine 111 = .ok (.iadd, 1) := by decide +kernel
theorem dX8_readLine_112 : decode cX8_readLine 112 = .ok (.aload_n 0, 1) := by decide +kernel
theorem dX8_readLine_113 : decode cX8_readLine 113 = .ok (.iconst 0, 1) := by decide +kernel
theorem dX8_readLine_114 : decode cX8_readLine 114 = .ok (.sipush 255, 3) := by decide +kernel
theorem dX8_readLine_117 : decode cX8_readLine 117 = .ok (.invokevirtual 120, 3) := by decide +kernel
theorem dX8_readLine_120 : decode cX8_readLine 120 = .ok (.iastore, 1) := by decide +kernel
theorem dX8_readLine_121 : decode cX8_readLine 121 = .ok (.aload_n 0, 1) := by decide +kernel
theorem dX8_readLine_122 : decode cX8_readLine 122 = .ok (.dup, 1) := by decide +kernel
theorem dX8_readLine_123 : decode cX8_readLine 123 = .ok (.getfield 140, 3) := by decide +kernel
theorem dX8_readLine_126 : decode cX8_readLine 126 = .ok (.iconst 1, 1) := by decide +kernel
theorem dX8_readLine_127 : decode cX8_readLine 127 = .ok (.iadd, 1) := by decide +kernel
theorem dX8_readLine_128 : decode cX8_readLine 128 = .ok (.putfield 140, 3) := by decide +kernel
theorem dX8_readLine_131 : decode cX8_readLine 131 = .ok (.goto 101, 3) := by decide +kernel
theorem dX8_readLine_134 : decode cX8_readLine 134 = .ok (.iload_n 1, 1) := by decide +kernel
theorem dX8_readLine_135 : decode cX8_readLine 135 = .ok (.iconst 5, 1) := by decide +kernel
theorem dX8_readLine_136 : decode cX8_readLine 136 = .ok (.if_icmp .ne 25, 3) := by decide +kernel
theorem dX8_readLine_139 : decode cX8_readLine 139 = .ok (.aload_n 0, 1) := by decide +kernel
theorem dX8_readLine_140 : decode cX8_readLine 140 = .ok (.iconst 0, 1) := by decide +kernel
theorem dX8_readLine_141 : decode cX8_readLine 141 = .ok (.aload_n 0, 1) := by decide +kernel
theorem dX8_readLine_142 : decode cX8_readLine 142 = .ok (.getfield 143, 3) := by decide +kernel
theorem dX8_readLine_145 : decode cX8_readLine 145 = .ok (.invokevirtual 149, 3) := by decide +kernel
theorem dX8_readLine_148 : decode cX8_readLine 148 = .ok (.aload_n 0, 1) := by decide +kernel
theorem dX8_readLine_149 : decode cX8_readLine 149 = .ok (.dup, 1) := by decide +kernel
theorem dX8_readLine_150 : decode cX8_readLine 150 = .ok (.getfield 143, 3) := by decide +kernel
theorem dX8_readLine_153 : decode cX8_readLine 153 = .ok (.iconst 1, 1) := by decide +kernel
theorem dX8_readLine_154 : decode cX8_readLine 154 = .ok (.iadd, 1) := by decide +kernel
theorem dX8_readLine_155 : decode cX8_readLine 155 = .ok (.putfield 143, 3) := by decide +kernel
theorem dX8_readLine_158 : decode cX8_readLine 158 = .ok (.goto 74, 3) := by decide +kernel
theorem dX8_readLine_161 : decode cX8_readLine 161 = .ok (.aload_n 0, 1) := by decide +kernel
theorem dX8_readLine_162 : decode cX8_readLine 162 = .ok (.getfield 31, 3) := by decide +kernel
theorem dX8_readLine_165 : decode cX8_readLine 165 = .ok (.iconst 2, 1) := by decide +kernel
theorem dX8_readLine_166 : decode cX8_readLine 166 = .ok (.aload_n 0, 1) := by decide +kernel
theorem dX8_readLine_167 : decode cX8_readLine 167 = .ok (.getfield 146, 3) := by decide +kernel
theorem dX8_readLine_170 : decode cX8_readLine 170 = .ok (.imul, 1) := by decide +kernel
theorem dX8_readLine_171 : decode cX8_readLine 171 = .ok (.aload_n 0, 1) := by decide +kernel
theorem dX8_readLine_172 : decode cX8_readLine 172 = .ok (.aload_n 0, 1) := by decide +kernel
theorem dX8_readLine_173 : decode cX8_readLine 173 = .ok (.getfield 146, 3) := by decide +kernel
theorem dX8_readLine_176 : decode cX8_readLine 176 = .ok (.ifCond .ne 7, 3) := by decide +kernel
theorem dX8_readLine_179 : decode cX8_readLine 179 = .ok (.iconst 0, 1) := by decide +kernel
theorem dX8_readLine_180 : decode cX8_readLine 180 = .ok (.goto 16, 3) := by decide +kernel
theorem dX8_readLine_183 : decode cX8_readLine 183 = .ok (.aload_n 0, 1) := by decide +kernel
theorem dX8_readLine_184 : decode cX8_readLine 184 = .ok (.getfield 31, 3) := by decide +kernel
theorem dX8_readLine_187 : decode cX8_readLine 187 = .ok (.iconst 2, 1) := by decide +kernel
theorem dX8_readLine_188 : decode cX8_readLine 188 = .ok (.aload_n 0, 1) := by decide +kernel
theorem dX8_readLine_189 : decode cX8_readLine 189 = .ok (.getfield 146, 3) := by decide +kernel
theorem dX8_readLine_192 : decode cX8_readLine 192 = .ok (.imul, 1) := by decide +kernel
theorem dX8_readLine_193 : decode cX8_readLine 193 = .ok (.iconst 2, 1) := by decide +kernel
theorem dX8_readLine_194 : decode cX8_readLine 194 = .ok (.isub, 1) := by decide +kernel
theorem dX8_readLine_195 : decode cX8_readLine 195 = .ok (.iaload, 1) := by decide +kernel
theorem dX8_readLine_196 : decode cX8_readLine 196 = .ok (.bipush 60, 2) := by decide +kernel
theorem dX8_readLine_198 : decode cX8_readLine 198 = .ok (.invokevirtual 120, 3) := by decide +kernel
theorem dX8_readLine_201 : decode cX8_readLine 201 = .ok (.iastore, 1) := by decide +kernel
theorem dX8_readLine_202 : decode cX8_readLine 202 = .ok (.aload_n 0, 1) := by decide +kernel
theorem dX8_readLine_203 : decode cX8_readLine 203 = .ok (.getfield 31, 3) := by decide +kernel
theorem dX8_readLine_206 : decode cX8_readLine 206 = .ok (.iconst 2, 1) := by decide +kernel
theorem dX8_readLine_207 : decode cX8_readLine 207 = .ok (.aload_n 0, 1) := by decide +kernel
theorem dX8_readLine_208 : decode cX8_readLine 208 = .ok (.getfield 146, 3) := by decide +kernel
theorem dX8_readLine_211 : decode cX8_readLine 211 = .ok (.imul, 1) := by decide +kernel
theorem dX8_readLine_212 : decode cX8_readLine 212 = .ok (.iconst 1, 1) := by decide +kernel
theorem dX8_readLine_213 : decode cX8_readLine 213 = .ok (.iadd, 1) := by decide +kernel
theorem dX8_readLine_214 : decode cX8_readLine 214 = .ok (.aload_n 0, 1) := by decide +kernel
theorem dX8_readLine_215 : decode cX8_readLine 215 = .ok (.iconst 0, 1) := by decide +kernel
theorem dX8_readLine_216 : decode cX8_readLine 216 = .ok (.bipush 7, 2) := by decide +kernel
theorem dX8_readLine_218 : decode cX8_readLine 218 = .ok (.invokevirtual 120, 3) := by decide +kernel
theorem dX8_readLine_221 : decode cX8_readLine 221 = .ok (.iastore, 1) := by decide +kernel
theorem dX8_readLine_222 : decode cX8_readLine 222 = .ok (.aload_n 0, 1) := by decide +kernel
theorem dX8_readLine_223 : decode cX8_readLine 223 = .ok (.dup, 1) := by decide +kernel
theorem dX8_readLine_224 : decode cX8_readLine 224 = .ok (.getfield 146, 3) := by decide +kernel
theorem dX8_readLine_227 : decode cX8_readLine 227 = .ok (.iconst 1, 1) := by decide +kernel
theorem dX8_readLine_228 : decode cX8_readLine 228 = .ok (.iadd, 1) := by decide +kernel
theorem dX8_readLine_229 : decode cX8_readLine 229 = .ok (.putfield 146, 3) := by decide +kernel
theorem dX8_readLine_232 : decode cX8_readLine 232 = .ok (.aload_n 0, 1) := by decide +kernel
theorem dX8_readLine_233 : decode cX8_readLine 233 = .ok (.getfield 83, 3) := by decide +kernel
theorem dX8_readLine_236 : decode cX8_readLine 236 = .ok (.ifCond .ne 16, 3) := by decide +kernel
theorem dX8_readLine_239 : decode cX8_readLine 239 = .ok (.aload_n 0, 1) := by decide +kernel
theorem dX8_readLine_240 : decode cX8_readLine 240 = .ok (.getfield 92, 3) := by decide +kernel
theorem dX8_readLine_243 : decode cX8_readLine 243 = .ok (.iconst 3, 1) := by decide +kernel
theorem dX8_readLine_244 : decode cX8_readLine 244 = .ok (.if_icmp .eq 8, 3) := by decide +kernel
theorem dX8_readLine_247 : decode cX8_readLine 247 = .ok (.aload_n 0, 1) := by decide +kernel
theorem dX8_readLine_248 : decode cX8_readLine 248 = .ok (.iconst 2, 1) := by decide +kernel
theorem dX8_readLine_249 : decode cX8_readLine 249 = .ok (.invokevirtual 113, 3) := by decide +kernel
theorem dX8_readLine_252 : decode cX8_readLine 252 = .ok (.aload_n 0, 1) := by decide +kernel
theorem dX8_readLine_253 : decode cX8_readLine 253 = .ok (.invokevirtual 117, 3) := by decide +kernel
theorem dX8_readLine_256 : decode cX8_readLine 256 = .ok (.return_, 1) := by decide +kernel
theorem dX8_takes2_0 : decode cX8_takes2 0 = .ok (.iconst 0, 1) := by decide +kernel
theorem dX8_takes2_1 : decode cX8_takes2 1 = .ok (.istore_n 1, 1) := by decide +kernel
theorem dX8_takes2_2 : decode cX8_takes2 2 = .ok (.iload_n 1, 1) := by decide +kernel
theorem dX8_takes2_3 : decode cX8_takes2 3 = .ok (.bipush 24, 2) := by decide +kernel
theorem dX8_takes2_5 : decode cX8_takes2 5 = .ok (.if_icmp .ge 53, 3) := by decide +kernel
theorem dX8_takes2_8 : decode cX8_takes2 8 = .ok (.aload_n 0, 1) := by decide +kernel
theorem dX8_takes2_9 : decode cX8_takes2 9 = .ok (.getfield 19, 3) := by decide +kernel
theorem dX8_takes2_12 : decode cX8_takes2 12 = .ok (.iload_n 1, 1) := by decide +kernel
theorem dX8_takes2_13 : decode cX8_takes2 13 = .ok (.aload_n 0, 1) := by decide +kernel
theorem dX8_takes2_14 : decode cX8_takes2 14 = .ok (.getfield 31, 3) := by decide +kernel
theorem dX8_takes2_17 : decode cX8_takes2 17 = .ok (.iload_n 1, 1) := by decide +kernel
theorem dX8_takes2_18 : decode cX8_takes2 18 = .ok (.iaload, 1) := by decide +kernel
theorem dX8_takes2_19 : decode cX8_takes2 19 = .ok (.iastore, 1) := by decide +kernel
theorem dX8_takes2_20 : decode cX8_takes2 20 = .ok (.aload_n 0, 1) := by decide +kernel
theorem dX8_takes2_21 : decode cX8_takes2 21 = .ok (.getfield 13, 3) := by decide +kernel
theorem dX8_takes2_24 : decode cX8_takes2 24 = .ok (.iload_n 1, 1) := by decide +kernel
theorem dX8_takes2_25 : decode cX8_takes2 25 = .ok (.iconst 4, 1) := by decide +kernel
theorem dX8_takes2_26 : decode cX8_takes2 26 = .ok (.irem, 1) := by decide +kernel
theorem dX8_takes2_27 : decode cX8_takes2 27 = .ok (.aload_n 0, 1) := by decide +kernel
theorem dX8_takes2_28 : decode cX8_takes2 28 = .ok (.getfield 22, 3) := by decide +kernel
theorem dX8_takes2_31 : decode cX8_takes2 31 = .ok (.iload_n 1, 1) := by decide +kernel
theorem dX8_takes2_32 : decode cX8_takes2 32 = .ok (.iconst 4, 1) := by decide +kernel
theorem dX8_takes2_33 : decode cX8_takes2 33 = .ok (.irem, 1) := by decide +kernel
theorem dX8_takes2_34 : decode cX8_takes2 34 = .ok (.iaload, 1) := by decide +kernel
theorem dX8_takes2_35 : decode cX8_takes2 35 = .ok (.iastore, 1) := by decide +kernel
theorem dX8_takes2_36 : decode cX8_takes2 36 = .ok (.aload_n 0, 1) := by decide +kernel
theorem dX8_takes2_37 : decode cX8_takes2 37 = .ok (.getfield 16, 3) := by decide +kernel
theorem dX8_takes2_40 : decode cX8_takes2 40 = .ok (.iload_n 1, 1) := by decide +kernel
theorem dX8_takes2_41 : decode cX8_takes2 41 = .ok (.iconst 3, 1) := by decide +kernel
theorem dX8_takes2_42 : decode cX8_takes2 42 = .ok (.irem, 1) := by decide +kernel
theorem dX8_takes2_43 : decode cX8_takes2 43 = .ok (.aload_n 0, 1) := by decide +kernel
theorem dX8_takes2_44 : decode cX8_takes2 44 = .ok (.getfield 28, 3) := by decide +kernel
theorem dX8_takes2_47 : decode cX8_takes2 47 = .ok (.iload_n 1, 1) := by decide +kernel
theorem dX8_takes2_48 : decode cX8_takes2 48 = .ok (.iconst 3, 1) := by decide +kernel
theorem dX8_takes2_49 : decode cX8_takes2 49 = .ok (.irem, 1) := by decide +kernel
theorem dX8_takes2_50 : decode cX8_takes2 50 = .ok (.iaload, 1) := by decide +kernel
theorem dX8_takes2_51 : decode cX8_takes2 51 = .ok (.iastore, 1) := by decide +kernel
theorem dX8_takes2_52 : decode cX8_takes2 52 = .ok (.iinc 1 1, 3) := by decide +kernel
theorem dX8_takes2_55 : decode cX8_takes2 55 = .ok (.goto (-53), 3) := by decide +kernel
theorem dX8_takes2_58 : decode cX8_takes2 58 = .ok (.iconst 0, 1) := by decide +kernel
theorem dX8_takes2_59 : decode cX8_takes2 59 = .ok (.istore_n 1, 1) := by decide +kernel
theorem dX8_takes2_60 : decode cX8_takes2 60 = .ok (.iload_n 1, 1) := by decide +kernel
theorem dX8_takes2_61 : decode cX8_takes2 61 = .ok (.bipush 6, 2) := by decide +kernel
theorem dX8_takes2_63 : decode cX8_takes2 63 = .ok (.if_icmp .ge 44, 3) := by decide +kernel
theorem dX8_takes2_66 : decode cX8_takes2 66 = .ok (.aload_n 0, 1) := by decide +kernel
theorem dX8_takes2_67 : decode cX8_takes2 67 = .ok (.getfield 7, 3) := by decide +kernel
theorem dX8_takes2_70 : decode cX8_takes2 70 = .ok (.iconst 0, 1) := by decide +kernel
theorem dX8_takes2_71 : decode cX8_takes2 71 = .ok (.iload_n 1, 1) := by decide +kernel
theorem dX8_takes2_72 : decode cX8_takes2 72 = .ok (.iadd, 1) := by decide +kernel
theorem dX8_takes2_73 : decode cX8_takes2 73 = .ok (.aload_n 0, 1) := by decide +kernel
theorem dX8_takes2_74 : decode cX8_takes2 74 = .ok (.getfield 25, 3) := by decide +kernel
theorem dX8_takes2_77 : decode cX8_takes2 77 = .ok (.iconst 2, 1) := by decide +kernel
theorem dX8_takes2_78 : decode cX8_takes2 78 = .ok (.iload_n 1, 1) := by decide +kernel
theorem dX8_takes2_79 : decode cX8_takes2 79 = .ok (.imul, 1) := by decide +kernel
theorem dX8_takes2_80 : decode cX8_takes2 80 = .ok (.iaload, 1) := by decide +kernel
theorem dX8_takes2_81 : decode cX8_takes2 81 = .ok (.iastore, 1) := by decide +kernel
theorem dX8_takes2_82 : decode cX8_takes2 82 = .ok (.aload_n 0, 1) := by decide +kernel
theorem dX8_takes2_83 : decode cX8_takes2 83 = .ok (.getfield 7, 3) := by decide +kernel
theorem dX8_takes2_86 : decode cX8_takes2 86 = .ok (.bipush 6, 2) := by decide +kernel
theorem dX8_takes2_88 : decode cX8_takes2 88 = .ok (.iload_n 1, 1) := by decide +kernel
theorem dX8_takes2_89 : decode cX8_takes2 89 = .ok (.iadd, 1) := by decide +kernel
theorem dX8_takes2_90 : decode cX8_takes2 90 = .ok (.aload_n 0, 1) := by decide +kernel
theorem dX8_takes2_91 : decode cX8_takes2 91 = .ok (.getfield 25, 3) := by decide +kernel
theorem dX8_takes2_94 : decode cX8_takes2 94 = .ok (.iconst 2, 1) := by decide +kernel
theorem dX8_takes2_95 : decode cX8_takes2 95 = .ok (.iload_n 1, 1) := by decide +kernel
theorem dX8_takes2_96 : decode cX8_takes2 96 = .ok (.imul, 1) := by decide +kernel
theorem dX8_takes2_97 : decode cX8_takes2 97 = .ok (.iconst 1, 1) := by decide +kernel
theorem dX8_takes2_98 : decode cX8_takes2 98 = .ok (.iadd, 1) := by decide +kernel
theorem dX8_takes2_99 : decode cX8_takes2 99 = .ok (.iaload, 1) := by decide +kernel
theorem dX8_takes2_100 : decode cX8_takes2 100 = .ok (.iastore, 1) := by decide +kernel
theorem dX8_takes2_101 : decode cX8_takes2 101 = .ok (.iinc 1 1, 3) := by decide +kernel
theorem dX8_takes2_104 : decode cX8_takes2 104 = .ok (.goto (-44), 3) := by decide +kernel
theorem dX8_takes2_107 : decode cX8_takes2 107 = .ok (.aload_n 0, 1) := by decide +kernel
theorem dX8_takes2_108 : decode cX8_takes2 108 = .ok (.getfield 7, 3) := by decide +kernel
theorem dX8_takes2_111 : decode cX8_takes2 111 = .ok (.bipush 12, 2) := by decide +kernel
theorem dX8_takes2_113 : decode cX8_takes2 113 = .ok (.aload_n 0, 1) := by decide +kernel
theorem dX8_takes2_114 : decode cX8_takes2 114 = .ok (.getfield 22, 3) := by decide +kernel
theorem dX8_takes2_117 : decode cX8_takes2 117 = .ok (.iconst 4, 1) := by decide +kernel
theorem dX8_takes2_118 : decode cX8_takes2 118 = .ok (.iaload, 1) := by decide +kernel
theorem dX8_takes2_119 : decode cX8_takes2 119 = .ok (.iastore, 1) := by decide +kernel
theorem dX8_takes2_120 : decode cX8_takes2 120 = .ok (.aload_n 0, 1) := by decide +kernel
theorem dX8_takes2_121 : decode cX8_takes2 121 = .ok (.getfield 7, 3) := by decide +kernel
theorem dX8_takes2_124 : decode cX8_takes2 124 = .ok (.bipush 13, 2) := by decide +kernel
theorem dX8_takes2_126 : decode cX8_takes2 126 = .ok (.aload_n 0, 1) := by decide +kernel
theorem dX8_takes2_127 : decode cX8_takes2 127 = .ok (.getfield 22, 3) := by decide +kernel
theorem dX8_takes2_130 : decode cX8_takes2 130 = .ok (.iconst 5, 1) := by decide +kernel
theorem dX8_takes2_131 : decode cX8_takes2 131 = .ok (.iaload, 1) := by decide +kernel
theorem dX8_takes2_132 : decode cX8_takes2 132 = .ok (.iastore, 1) := by decide +kernel
theorem dX8_takes2_133 : decode cX8_takes2 133 = .ok (.aload_n 0, 1) := by decide +kernel
theorem dX8_takes2_134 : decode cX8_takes2 134 = .ok (.getfield 7, 3) := by decide +kernel
theorem dX8_takes2_137 : decode cX8_takes2 137 = .ok (.bipush 113, 2) := by decide +kernel
theorem dX8_takes2_139 : decode cX8_takes2 139 = .ok (.aload_n 0, 1) := by decide +kernel
theorem dX8_takes2_140 : decode cX8_takes2 140 = .ok (.getfield 140, 3) := by decide +kernel
theorem dX8_takes2_143 : decode cX8_takes2 143 = .ok (.iastore, 1) := by decide +kernel
theorem dX8_takes2_144 : decode cX8_takes2 144 = .ok (.aload_n 0, 1) := by decide +kernel
theorem dX8_takes2_145 : decode cX8_takes2 145 = .ok (.getfield 7, 3) := by decide +kernel
theorem dX8_takes2_148 : decode cX8_takes2 148 = .ok (.bipush 86, 2) := by decide +kernel
theorem dX8_takes2_150 : decode cX8_takes2 150 = .ok (.iconst 0, 1) := by decide +kernel
theorem dX8_takes2_151 : decode cX8_takes2 151 = .ok (.iastore, 1) := by decide +kernel
theorem dX8_takes2_152 : decode cX8_takes2 152 = .ok (.aload_n 0, 1) := by decide +kernel
theorem dX8_takes2_153 : decode cX8_takes2 153 = .ok (.getfield 7, 3) := by decide +kernel
theorem dX8_takes2_156 : decode cX8_takes2 156 = .ok (.bipush 112, 2) := by decide +kernel
theorem dX8_takes2_158 : decode cX8_takes2 158 = .ok (.iconst 0, 1) := by decide +kernel
theorem dX8_takes2_159 : decode cX8_takes2 159 = .ok (.iastore, 1) := by decide +kernel
theorem dX8_takes2_160 : decode cX8_takes2 160 = .ok (.aload_n 0, 1) := by decide +kernel
theorem dX8_takes2_161 : decode cX8_takes2 161 = .ok (.aload_n 0, 1) := by decide +kernel
theorem dX8_takes2_162 : decode cX8_takes2 162 = .ok (.getfield 143, 3) := by decide +kernel
theorem dX8_takes2_165 : decode cX8_takes2 165 = .ok (.putfield 153, 3) := by decide +kernel
theorem dX8_takes2_168 : decode cX8_takes2 168 = .ok (.aload_n 0, 1) := by decide +kernel
theorem dX8_takes2_169 : decode cX8_takes2 169 = .ok (.aload_n 0, 1) := by decide +kernel
theorem dX8_takes2_170 : decode cX8_takes2 170 = .ok (.getfield 146, 3) := by decide +kernel
theorem dX8_takes2_173 : decode cX8_takes2 173 = .ok (.putfield 156, 3) := by decide +kernel
theorem dX8_takes2_176 : decode cX8_takes2 176 = .ok (.aload_n 0, 1) := by decide +kernel
theorem dX8_takes2_177 : decode cX8_takes2 177 = .ok (.iconst 1, 1) := by decide +kernel
theorem dX8_takes2_178 : decode cX8_takes2 178 = .ok (.putfield 71, 3) := by decide +kernel
theorem dX8_takes2_181 : decode cX8_takes2 181 = .ok (.aload_n 0, 1) := by decide +kernel
theorem dX8_takes2_182 : decode cX8_takes2 182 = .ok (.getfield 58, 3) := by decide +kernel
theorem dX8_takes2_185 : decode cX8_takes2 185 = .ok (.iconst 0, 1) := by decide +kernel
theorem dX8_takes2_186 : decode cX8_takes2 186 = .ok (.iconst 0, 1) := by decide +kernel
theorem dX8_takes2_187 : decode cX8_takes2 187 = .ok (.bastore, 1) := by decide +kernel
theorem dX8_takes2_188 : decode cX8_takes2 188 = .ok (.aload_n 0, 1) := by decide +kernel
theorem dX8_takes2_189 : decode cX8_takes2 189 = .ok (.getfield 58, 3) := by decide +kernel
theorem dX8_takes2_192 : decode cX8_takes2 192 = .ok (.iconst 1, 1) := by decide +kernel
theorem dX8_takes2_193 : decode cX8_takes2 193 = .ok (.iconst 0, 1) := by decide +kernel
theorem dX8_takes2_194 : decode cX8_takes2 194 = .ok (.bastore, 1) := by decide +kernel
theorem dX8_takes2_195 : decode cX8_takes2 195 = .ok (.return_, 1) := by decide +kernel
theorem dX8_land_0 : decode cX8_land 0 = .ok (.aload_n 0, 1) := by decide +kernel
theorem dX8_land_1 : decode cX8_land 1 = .ok (.iconst 0, 1) := by decide +kernel
theorem dX8_land_2 : decode cX8_land 2 = .ok (.putfield 83, 3) := by decide +kernel
theorem dX8_land_5 : decode cX8_land 5 = .ok (.aload_n 0, 1) := by decide +kernel
theorem dX8_land_6 : decode cX8_land 6 = .ok (.iconst 0, 1) := by decide +kernel
theorem dX8_land_7 : decode cX8_land 7 = .ok (.putfield 95, 3) := by decide +kernel
theorem dX8_land_10 : decode cX8_land 10 = .ok (.aload_n 0, 1) := by decide +kernel
theorem dX8_land_11 : decode cX8_land 11 = .ok (.iconst 0, 1) := by decide +kernel
theorem dX8_land_12 : decode cX8_land 12 = .ok (.putfield 130, 3) := by decide +kernel
theorem dX8_land_15 : decode cX8_land 15 = .ok (.aload_n 0, 1) := by decide +kernel
theorem dX8_land_16 : decode cX8_land 16 = .ok (.iconst 0, 1) := by decide +kernel
theorem dX8_land_17 : decode cX8_land 17 = .ok (.putfield 140, 3) := by decide +kernel
theorem dX8_land_20 : decode cX8_land 20 = .ok (.aload_n 0, 1) := by decide +kernel
theorem dX8_land_21 : decode cX8_land 21 = .ok (.iconst 0, 1) := by decide +kernel
theorem dX8_land_22 : decode cX8_land 22 = .ok (.putfield 143, 3) := by decide +kernel
theorem dX8_land_25 : decode cX8_land 25 = .ok (.aload_n 0, 1) := by decide +kernel
theorem dX8_land_26 : decode cX8_land 26 = .ok (.iconst 0, 1) := by decide +kernel
theorem dX8_land_27 : decode cX8_land 27 = .ok (.putfield 146, 3) := by decide +kernel
theorem dX8_land_30 : decode cX8_land 30 = .ok (.aload_n 0, 1) := by decide +kernel
theorem dX8_land_31 : decode cX8_land 31 = .ok (.iconst 0, 1) := by decide +kernel
theorem dX8_land_32 : decode cX8_land 32 = .ok (.putfield 124, 3) := by decide +kernel
theorem dX8_land_35 : decode cX8_land 35 = .ok (.aload_n 0, 1) := by decide +kernel
theorem dX8_land_36 : decode cX8_land 36 = .ok (.iconst 0, 1) := by decide +kernel
theorem dX8_land_37 : decode cX8_land 37 = .ok (.putfield 127, 3) := by decide +kernel
theorem dX8_land_40 : decode cX8_land 40 = .ok (.iconst 0, 1) := by decide +kernel
theorem dX8_land_41 : decode cX8_land 41 = .ok (.istore_n 1, 1) := by decide +kernel
theorem dX8_land_42 : decode cX8_land 42 = .ok (.iconst 0, 1) := by decide +kernel
theorem dX8_land_43 : decode cX8_land 43 = .ok (.istore_n 2, 1) := by decide +kernel
theorem dX8_land_44 : decode cX8_land 44 = .ok (.iload_n 2, 1) := by decide +kernel
theorem dX8_land_45 : decode cX8_land 45 = .ok (.bipush 6, 2) := by decide +kernel
theorem dX8_land_47 : decode cX8_land 47 = .ok (.if_icmp .ge 44, 3) := by decide +kernel
theorem dX8_land_50 : decode cX8_land 50 = .ok (.aload_n 0, 1) := by decide +kernel
theorem dX8_land_51 : decode cX8_land 51 = .ok (.getfield 22, 3) := by decide +kernel
theorem dX8_land_54 : decode cX8_land 54 = .ok (.iload_n 2, 1) := by decide +kernel
theorem dX8_land_55 : decode cX8_land 55 = .ok (.iload_n 2, 1) := by decide +kernel
theorem dX8_land_56 : decode cX8_land 56 = .ok (.iconst 2, 1) := by decide +kernel
theorem dX8_land_57 : decode cX8_land 57 = .ok (.if_icmp .ge 8, 3) := by decide +kernel
theorem dX8_land_60 : decode cX8_land 60 = .ok (.bipush 9, 2) := by decide +kernel
theorem dX8_land_62 : decode cX8_land 62 = .ok (.goto 22, 3) := by decide +kernel
theorem dX8_land_65 : decode cX8_land 65 = .ok (.iload_n 2, 1) := by decide +kernel
theorem dX8_land_66 : decode cX8_land 66 = .ok (.iconst 2, 1) := by decide +kernel
theorem dX8_land_67 : decode cX8_land 67 = .ok (.if_icmp .ne 7, 3) := by decide +kernel
theorem dX8_land_70 : decode cX8_land 70 = .ok (.iconst 2, 1) := by decide +kernel
theorem dX8_land_71 : decode cX8_land 71 = .ok (.goto 13, 3) := by decide +kernel
theorem dX8_land_74 : decode cX8_land 74 = .ok (.iload_n 2, 1) := by decide +kernel
theorem dX8_land_75 : decode cX8_land 75 = .ok (.iconst 3, 1) := by decide +kernel
theorem dX8_land_76 : decode cX8_land 76 = .ok (.if_icmp .ne 7, 3) := by decide +kernel
theorem dX8_land_79 : decode cX8_land 79 = .ok (.iconst 3, 1) := by decide +kernel
theorem dX8_land_80 : decode cX8_land 80 = .ok (.goto 4, 3) := by decide +kernel
theorem dX8_land_83 : decode cX8_land 83 = .ok (.iconst 1, 1) := by decide +kernel
theorem dX8_land_84 : decode cX8_land 84 = .ok (.iastore, 1) := by decide +kernel
theorem dX8_land_85 : decode cX8_land 85 = .ok (.iinc 2 1, 3) := by decide +kernel
theorem dX8_land_88 : decode cX8_land 88 = .ok (.goto (-44), 3) := by decide +kernel
theorem dX8_land_91 : decode cX8_land 91 = .ok (.aload_n 0, 1) := by decide +kernel
theorem dX8_land_92 : decode cX8_land 92 = .ok (.invokevirtual 117, 3) := by decide +kernel
theorem dX8_land_95 : decode cX8_land 95 = .ok (.aload_n 0, 1) := by decide +kernel
theorem dX8_land_96 : decode cX8_land 96 = .ok (.getfield 83, 3) := by decide +kernel
theorem dX8_land_99 : decode cX8_land 99 = .ok (.ifCond .ne 20, 3) := by decide +kernel
theorem dX8_land_102 : decode cX8_land 102 = .ok (.aload_n 0, 1) := by decide +kernel
theorem dX8_land_103 : decode cX8_land 103 = .ok (.getfield 92, 3) := by decide +kernel
theorem dX8_land_106 : decode cX8_land 106 = .ok (.ifCond .eq 13, 3) := by decide +kernel
theorem dX8_land_109 : decode cX8_land 109 = .ok (.aload_n 0, 1) := by decide +kernel
theorem dX8_land_110 : decode cX8_land 110 = .ok (.invokevirtual 159, 3) := by decide +kernel
theorem dX8_land_113 : decode cX8_land 113 = .ok (.iinc 1 1, 3) := by decide +kernel
theorem dX8_land_116 : decode cX8_land 116 = .ok (.goto (-21), 3) := by decide +kernel
theorem dX8_land_119 : decode cX8_land 119 = .ok (.aload_n 0, 1) := by decide +kernel
theorem dX8_land_120 : decode cX8_land 120 = .ok (.getfield 83, 3) := by decide +kernel
theorem dX8_land_123 : decode cX8_land 123 = .ok (.ifCond .ne 47, 3) := by decide +kernel
theorem dX8_land_126 : decode cX8_land 126 = .ok (.aload_n 0, 1) := by decide +kernel
theorem dX8_land_127 : decode cX8_land 127 = .ok (.getfield 124, 3) := by decide +kernel
theorem dX8_land_130 : decode cX8_land 130 = .ok (.aload_n 0, 1) := by decide +kernel
theorem dX8_land_131 : decode cX8_land 131 = .ok (.getfield 22, 3) := by decide +kernel
theorem dX8_land_134 : decode cX8_land 134 = .ok (.iconst 0, 1) := by decide +kernel
theorem dX8_land_135 : decode cX8_land 135 = .ok (.iaload, 1) := by decide +kernel
theorem dX8_land_136 : decode cX8_land 136 = .ok (.if_icmp .ge 16, 3) := by decide +kernel
theorem dX8_land_139 : decode cX8_land 139 = .ok (.aload_n 0, 1) := by decide +kernel
theorem dX8_land_140 : decode cX8_land 140 = .ok (.getfield 127, 3) := by decide +kernel
theorem dX8_land_143 : decode cX8_land 143 = .ok (.aload_n 0, 1) := by decide +kernel
theorem dX8_land_144 : decode cX8_land 144 = .ok (.getfield 22, 3) := by decide +kernel
theorem dX8_land_147 : decode cX8_land 147 = .ok (.iconst 1, 1) := by decide +kernel
theorem dX8_land_148 : decode cX8_land 148 = .ok (.iaload, 1) := by decide +kernel
theorem dX8_land_149 : decode cX8_land 149 = .ok (.if_icmp .lt 21, 3) := by decide +kernel
theorem dX8_land_152 : decode cX8_land 152 = .ok (.aload_n 0, 1) := by decide +kernel
theorem dX8_land_153 : decode cX8_land 153 = .ok (.getfield 140, 3) := by decide +kernel
theorem dX8_land_156 : decode cX8_land 156 = .ok (.aload_n 0, 1) := by decide +kernel
theorem dX8_land_157 : decode cX8_land 157 = .ok (.getfield 143, 3) := by decide +kernel
theorem dX8_land_160 : decode cX8_land 160 = .ok (.iadd, 1) := by decide +kernel
theorem dX8_land_161 : decode cX8_land 161 = .ok (.ifCond .le 9, 3) := by decide +kernel
theorem dX8_land_164 : decode cX8_land 164 = .ok (.aload_n 0, 1) := by decide +kernel
theorem dX8_land_165 : decode cX8_land 165 = .ok (.bipush 6, 2) := by decide +kernel
theorem dX8_land_167 : decode cX8_land 167 = .ok (.invokevirtual 113, 3) := by decide +kernel
theorem dX8_land_170 : decode cX8_land 170 = .ok (.aload_n 0, 1) := by decide +kernel
theorem dX8_land_171 : decode cX8_land 171 = .ok (.iconst 0, 1) := by decide +kernel
theorem dX8_land_172 : decode cX8_land 172 = .ok (.putfield 75, 3) := by decide +kernel
theorem dX8_land_175 : decode cX8_land 175 = .ok (.aload_n 0, 1) := by decide +kernel
theorem dX8_land_176 : decode cX8_land 176 = .ok (.aload_n 0, 1) := by decide +kernel
theorem dX8_land_177 : decode cX8_land 177 = .ok (.getfield 83, 3) := by decide +kernel
theorem dX8_land_180 : decode cX8_land 180 = .ok (.putfield 162, 3) := by decide +kernel
theorem dX8_land_183 : decode cX8_land 183 = .ok (.aload_n 0, 1) := by decide +kernel
theorem dX8_land_184 : decode cX8_land 184 = .ok (.getfield 83, 3) := by decide +kernel
theorem dX8_land_187 : decode cX8_land 187 = .ok (.ifCond .le 11, 3) := by decide +kernel
theorem dX8_land_190 : decode cX8_land 190 = .ok (.bipush (-10), 2) := by decide +kernel
theorem dX8_land_192 : decode cX8_land 192 = .ok (.aload_n 0, 1) := by decide +kernel
theorem dX8_land_193 : decode cX8_land 193 = .ok (.getfield 89, 3) := by decide +kernel
theorem dX8_land_196 : decode cX8_land 196 = .ok (.isub, 1) := by decide +kernel
theorem dX8_land_197 : decode cX8_land 197 = .ok (.ireturn, 1) := by decide +kernel
theorem dX8_land_198 : decode cX8_land 198 = .ok (.aload_n 0, 1) := by decide +kernel
theorem dX8_land_199 : decode cX8_land 199 = .ok (.invokevirtual 165, 3) := by decide +kernel
theorem dX8_land_202 : decode cX8_land 202 = .ok (.iload_n 1, 1) := by decide +kernel
theorem dX8_land_203 : decode cX8_land 203 = .ok (.ireturn, 1) := by decide +kernel
theorem dX8_fault_0 : decode cX8_fault 0 = .ok (.aload_n 0, 1) := by decide +kernel
theorem dX8_fault_1 : decode cX8_fault 1 = .ok (.getfield 162, 3) := by decide +kernel
theorem dX8_fault_4 : decode cX8_fault 4 = .ok (.ireturn, 1) := by decide +kernel
theorem dX8_rule_0 : decode cX8_rule 0 = .ok (.aload_n 0, 1) := by decide +kernel
theorem dX8_rule_1 : decode cX8_rule 1 = .ok (.invokevirtual 168, 3) := by decide +kernel
theorem dX8_rule_4 : decode cX8_rule 4 = .ok (.iload_n 1, 1) := by decide +kernel
theorem dX8_rule_5 : decode cX8_rule 5 = .ok (.i2l, 1) := by decide +kernel
theorem dX8_rule_6 : decode cX8_rule 6 = .ok (.lconst 0, 1) := by decide +kernel
theorem dX8_rule_7 : decode cX8_rule 7 = .ok (.ldc2_w 171, 3) := by decide +kernel
theorem dX8_rule_10 : decode cX8_rule 10 = .ok (.invokestatic 79, 3) := by decide +kernel
theorem dX8_rule_13 : decode cX8_rule 13 = .ok (.ifCond .eq 12, 3) := by decide +kernel
theorem dX8_rule_16 : decode cX8_rule 16 = .ok (.aload_n 0, 1) := by decide +kernel
theorem dX8_rule_17 : decode cX8_rule 17 = .ok (.getfield 13, 3) := by decide +kernel
theorem dX8_rule_20 : decode cX8_rule 20 = .ok (.iload_n 1, 1) := by decide +kernel
theorem dX8_rule_21 : decode cX8_rule 21 = .ok (.iaload, 1) := by decide +kernel
theorem dX8_rule_22 : decode cX8_rule 22 = .ok (.goto 34, 3) := by decide +kernel
theorem dX8_rule_25 : decode cX8_rule 25 = .ok (.iload_n 1, 1) := by decide +kernel
theorem dX8_rule_26 : decode cX8_rule 26 = .ok (.iconst 4, 1) := by decide +kernel
theorem dX8_rule_27 : decode cX8_rule 27 = .ok (.if_icmp .ne 13, 3) := by decide +kernel
theorem dX8_rule_30 : decode cX8_rule 30 = .ok (.aload_n 0, 1) := by decide +kernel
theorem dX8_rule_31 : decode cX8_rule 31 = .ok (.getfield 7, 3) := by decide +kernel
theorem dX8_rule_34 : decode cX8_rule 34 = .ok (.bipush 12, 2) := by decide +kernel
theorem dX8_rule_36 : decode cX8_rule 36 = .ok (.iaload, 1) := by decide +kernel
theorem dX8_rule_37 : decode cX8_rule 37 = .ok (.goto 19, 3) := by decide +kernel
theorem dX8_rule_40 : decode cX8_rule 40 = .ok (.iload_n 1, 1) := by decide +kernel
theorem dX8_rule_41 : decode cX8_rule 41 = .ok (.iconst 5, 1) := by decide +kernel
theorem dX8_rule_42 : decode cX8_rule 42 = .ok (.if_icmp .ne 13, 3) := by decide +kernel
theorem dX8_rule_45 : decode cX8_rule 45 = .ok (.aload_n 0, 1) := by decide +kernel
theorem dX8_rule_46 : decode cX8_rule 46 = .ok (.getfield 7, 3) := by decide +kernel
theorem dX8_rule_49 : decode cX8_rule 49 = .ok (.bipush 13, 2) := by decide +kernel
theorem dX8_rule_51 : decode cX8_rule 51 = .ok (.iaload, 1) := by decide +kernel
theorem dX8_rule_52 : decode cX8_rule 52 = .ok (.goto 4, 3) := by decide +kernel
theorem dX8_rule_55 : decode cX8_rule 55 = .ok (.iconst (-1), 1) := by decide +kernel
theorem dX8_rule_56 : decode cX8_rule 56 = .ok (.ireturn, 1) := by decide +kernel
theorem dX8_isTower_0 : decode cX8_isTower 0 = .ok (.aload_n 0, 1) := by decide +kernel
theorem dX8_isTower_1 : decode cX8_isTower 1 = .ok (.invokevirtual 168, 3) := by decide +kernel
theorem dX8_isTower_4 : decode cX8_isTower 4 = .ok (.iload_n 1, 1) := by decide +kernel
theorem dX8_isTower_5 : decode cX8_isTower 5 = .ok (.i2l, 1) := by decide +kernel
theorem dX8_isTower_6 : decode cX8_isTower 6 = .ok (.lconst 0, 1) := by decide +kernel
theorem dX8_isTower_7 : decode cX8_isTower 7 = .ok (.aload_n 0, 1) := by decide +kernel
theorem dX8_isTower_8 : decode cX8_isTower 8 = .ok (.getfield 7, 3) := by decide +kernel
theorem dX8_isTower_11 : decode cX8_isTower 11 = .ok (.bipush 113, 2) := by decide +kernel
theorem dX8_isTower_13 : decode cX8_isTower 13 = .ok (.iaload, 1) := by decide +kernel
theorem dX8_isTower_14 : decode cX8_isTower 14 = .ok (.iconst 1, 1) := by decide +kernel
theorem dX8_isTower_15 : decode cX8_isTower 15 = .ok (.isub, 1) := by decide +kernel
theorem dX8_isTower_16 : decode cX8_isTower 16 = .ok (.i2l, 1) := by decide +kernel
theorem dX8_isTower_17 : decode cX8_isTower 17 = .ok (.invokestatic 79, 3) := by decide +kernel
theorem dX8_isTower_20 : decode cX8_isTower 20 = .ok (.ireturn, 1) := by decide +kernel
theorem dX8_isCell_0 : decode cX8_isCell 0 = .ok (.aload_n 0, 1) := by decide +kernel
theorem dX8_isCell_1 : decode cX8_isCell 1 = .ok (.invokevirtual 168, 3) := by decide +kernel
theorem dX8_isCell_4 : decode cX8_isCell 4 = .ok (.iload_n 1, 1) := by decide +kernel
theorem dX8_isCell_5 : decode cX8_isCell 5 = .ok (.ifCond .lt 33, 3) := by decide +kernel
theorem dX8_isCell_8 : decode cX8_isCell 8 = .ok (.iload_n 1, 1) := by decide +kernel
theorem dX8_isCell_9 : decode cX8_isCell 9 = .ok (.bipush 9, 2) := by decide +kernel
theorem dX8_isCell_11 : decode cX8_isCell 11 = .ok (.irem, 1) := by decide +kernel
theorem dX8_isCell_12 : decode cX8_isCell 12 = .ok (.aload_n 0, 1) := by decide +kernel
theorem dX8_isCell_13 : decode cX8_isCell 13 = .ok (.getfield 13, 3) := by decide +kernel
theorem dX8_isCell_16 : decode cX8_isCell 16 = .ok (.iconst 0, 1) := by decide +kernel
theorem dX8_isCell_17 : decode cX8_isCell 17 = .ok (.iaload, 1) := by decide +kernel
theorem dX8_isCell_18 : decode cX8_isCell 18 = .ok (.if_icmp .ge 20, 3) := by decide +kernel
theorem dX8_isCell_21 : decode cX8_isCell 21 = .ok (.iload_n 1, 1) := by decide +kernel
theorem dX8_isCell_22 : decode cX8_isCell 22 = .ok (.bipush 9, 2) := by decide +kernel
theorem dX8_isCell_24 : decode cX8_isCell 24 = .ok (.idiv, 1) := by decide +kernel
theorem dX8_isCell_25 : decode cX8_isCell 25 = .ok (.aload_n 0, 1) := by decide +kernel
theorem dX8_isCell_26 : decode cX8_isCell 26 = .ok (.getfield 13, 3) := by decide +kernel
theorem dX8_isCell_29 : decode cX8_isCell 29 = .ok (.iconst 1, 1) := by decide +kernel
theorem dX8_isCell_30 : decode cX8_isCell 30 = .ok (.iaload, 1) := by decide +kernel
theorem dX8_isCell_31 : decode cX8_isCell 31 = .ok (.if_icmp .ge 7, 3) := by decide +kernel
theorem dX8_isCell_34 : decode cX8_isCell 34 = .ok (.iconst 1, 1) := by decide +kernel
theorem dX8_isCell_35 : decode cX8_isCell 35 = .ok (.goto 4, 3) := by decide +kernel
theorem dX8_isCell_38 : decode cX8_isCell 38 = .ok (.iconst 0, 1) := by decide +kernel
theorem dX8_isCell_39 : decode cX8_isCell 39 = .ok (.ireturn, 1) := by decide +kernel
theorem dX8_tower_0 : decode cX8_tower 0 = .ok (.aload_n 0, 1) := by decide +kernel
theorem dX8_tower_1 : decode cX8_tower 1 = .ok (.iload_n 1, 1) := by decide +kernel
theorem dX8_tower_2 : decode cX8_tower 2 = .ok (.invokevirtual 173, 3) := by decide +kernel
theorem dX8_tower_5 : decode cX8_tower 5 = .ok (.ifCond .eq 35, 3) := by decide +kernel
theorem dX8_tower_8 : decode cX8_tower 8 = .ok (.iload_n 2, 1) := by decide +kernel
theorem dX8_tower_9 : decode cX8_tower 9 = .ok (.i2l, 1) := by decide +kernel
theorem dX8_tower_10 : decode cX8_tower 10 = .ok (.lconst 0, 1) := by decide +kernel
theorem dX8_tower_11 : decode cX8_tower 11 = .ok (.lconst 1, 1) := by decide +kernel
theorem dX8_tower_12 : decode cX8_tower 12 = .ok (.invokestatic 79, 3) := by decide +kernel
theorem dX8_tower_15 : decode cX8_tower 15 = .ok (.ifCond .eq 25, 3) := by decide +kernel
theorem dX8_tower_18 : decode cX8_tower 18 = .ok (.aload_n 0, 1) := by decide +kernel
theorem dX8_tower_19 : decode cX8_tower 19 = .ok (.getfield 7, 3) := by decide +kernel
theorem dX8_tower_22 : decode cX8_tower 22 = .ok (.iload_n 2, 1) := by decide +kernel
theorem dX8_tower_23 : decode cX8_tower 23 = .ok (.ifCond .ne 9, 3) := by decide +kernel
theorem dX8_tower_26 : decode cX8_tower 26 = .ok (.iconst 0, 1) := by decide +kernel
theorem dX8_tower_27 : decode cX8_tower 27 = .ok (.iload_n 1, 1) := by decide +kernel
theorem dX8_tower_28 : decode cX8_tower 28 = .ok (.iadd, 1) := by decide +kernel
theorem dX8_tower_29 : decode cX8_tower 29 = .ok (.goto 7, 3) := by decide +kernel
theorem dX8_tower_32 : decode cX8_tower 32 = .ok (.bipush 6, 2) := by decide +kernel
theorem dX8_tower_34 : decode cX8_tower 34 = .ok (.iload_n 1, 1) := by decide +kernel
theorem dX8_tower_35 : decode cX8_tower 35 = .ok (.iadd, 1) := by decide +kernel
theorem dX8_tower_36 : decode cX8_tower 36 = .ok (.iaload, 1) := by decide +kernel
theorem dX8_tower_37 : decode cX8_tower 37 = .ok (.goto 4, 3) := by decide +kernel
theorem dX8_tower_40 : decode cX8_tower 40 = .ok (.iconst (-1), 1) := by decide +kernel
theorem dX8_tower_41 : decode cX8_tower 41 = .ok (.ireturn, 1) := by decide +kernel
theorem dX8_hill_0 : decode cX8_hill 0 = .ok (.iload_n 1, 1) := by decide +kernel
theorem dX8_hill_1 : decode cX8_hill 1 = .ok (.i2l, 1) := by decide +kernel
theorem dX8_hill_2 : decode cX8_hill 2 = .ok (.lconst 0, 1) := by decide +kernel
theorem dX8_hill_3 : decode cX8_hill 3 = .ok (.aload_n 0, 1) := by decide +kernel
theorem dX8_hill_4 : decode cX8_hill 4 = .ok (.getfield 153, 3) := by decide +kernel
theorem dX8_hill_7 : decode cX8_hill 7 = .ok (.iconst 1, 1) := by decide +kernel
theorem dX8_hill_8 : decode cX8_hill 8 = .ok (.isub, 1) := by decide +kernel
theorem dX8_hill_9 : decode cX8_hill 9 = .ok (.i2l, 1) := by decide +kernel
theorem dX8_hill_10 : decode cX8_hill 10 = .ok (.invokestatic 79, 3) := by decide +kernel
theorem dX8_hill_13 : decode cX8_hill 13 = .ok (.ifCond .eq 12, 3) := by decide +kernel
theorem dX8_hill_16 : decode cX8_hill 16 = .ok (.aload_n 0, 1) := by decide +kernel
theorem dX8_hill_17 : decode cX8_hill 17 = .ok (.getfield 16, 3) := by decide +kernel
theorem dX8_hill_20 : decode cX8_hill 20 = .ok (.iload_n 1, 1) := by decide +kernel
theorem dX8_hill_21 : decode cX8_hill 21 = .ok (.iaload, 1) := by decide +kernel
theorem dX8_hill_22 : decode cX8_hill 22 = .ok (.goto 4, 3) := by decide +kernel
theorem dX8_hill_25 : decode cX8_hill 25 = .ok (.iconst (-1), 1) := by decide +kernel
theorem dX8_hill_26 : decode cX8_hill 26 = .ok (.ireturn, 1) := by decide +kernel
theorem dX8_note_0 : decode cX8_note 0 = .ok (.iload_n 1, 1) := by decide +kernel
theorem dX8_note_1 : decode cX8_note 1 = .ok (.i2l, 1) := by decide +kernel
theorem dX8_note_2 : decode cX8_note 2 = .ok (.lconst 0, 1) := by decide +kernel
theorem dX8_note_3 : decode cX8_note 3 = .ok (.aload_n 0, 1) := by decide +kernel
theorem dX8_note_4 : decode cX8_note 4 = .ok (.getfield 156, 3) := by decide +kernel
theorem dX8_note_7 : decode cX8_note 7 = .ok (.iconst 1, 1) := by decide +kernel
theorem dX8_note_8 : decode cX8_note 8 = .ok (.isub, 1) := by decide +kernel
theorem dX8_note_9 : decode cX8_note 9 = .ok (.i2l, 1) := by decide +kernel
theorem dX8_note_10 : decode cX8_note 10 = .ok (.invokestatic 79, 3) := by decide +kernel
theorem dX8_note_13 : decode cX8_note 13 = .ok (.ifCond .eq 26, 3) := by decide +kernel
theorem dX8_note_16 : decode cX8_note 16 = .ok (.iload_n 2, 1) := by decide +kernel
theorem dX8_note_17 : decode cX8_note 17 = .ok (.i2l, 1) := by decide +kernel
theorem dX8_note_18 : decode cX8_note 18 = .ok (.lconst 0, 1) := by decide +kernel
theorem dX8_note_19 : decode cX8_note 19 = .ok (.lconst 1, 1) := by decide +kernel
theorem dX8_note_20 : decode cX8_note 20 = .ok (.invokestatic 79, 3) := by decide +kernel
theorem dX8_note_23 : decode cX8_note 23 = .ok (.ifCond .eq 16, 3) := by decide +kernel
theorem dX8_note_26 : decode cX8_note 26 = .ok (.aload_n 0, 1) := by decide +kernel
theorem dX8_note_27 : decode cX8_note 27 = .ok (.getfield 19, 3) := by decide +kernel
theorem dX8_note_30 : decode cX8_note 30 = .ok (.iconst 2, 1) := by decide +kernel
theorem dX8_note_31 : decode cX8_note 31 = .ok (.iload_n 1, 1) := by decide +kernel
theorem dX8_note_32 : decode cX8_note 32 = .ok (.imul, 1) := by decide +kernel
theorem dX8_note_33 : decode cX8_note 33 = .ok (.iload_n 2, 1) := by decide +kernel
theorem dX8_note_34 : decode cX8_note 34 = .ok (.iadd, 1) := by decide +kernel
theorem dX8_note_35 : decode cX8_note 35 = .ok (.iaload, 1) := by decide +kernel
theorem dX8_note_36 : decode cX8_note 36 = .ok (.goto 4, 3) := by decide +kernel
theorem dX8_note_39 : decode cX8_note 39 = .ok (.iconst (-1), 1) := by decide +kernel
theorem dX8_note_40 : decode cX8_note 40 = .ok (.ireturn, 1) := by decide +kernel
theorem dX8_wind_0 : decode cX8_wind 0 = .ok (.aload_n 0, 1) := by decide +kernel
theorem dX8_wind_1 : decode cX8_wind 1 = .ok (.invokevirtual 168, 3) := by decide +kernel
theorem dX8_wind_4 : decode cX8_wind 4 = .ok (.iload_n 1, 1) := by decide +kernel
theorem dX8_wind_5 : decode cX8_wind 5 = .ok (.i2l, 1) := by decide +kernel
theorem dX8_wind_6 : decode cX8_wind 6 = .ok (.lconst 0, 1) := by decide +kernel
theorem dX8_wind_7 : decode cX8_wind 7 = .ok (.ldc2_w 177, 3) := by decide +kernel
theorem dX8_wind_10 : decode cX8_wind 10 = .ok (.invokestatic 79, 3) := by decide +kernel
theorem dX8_wind_13 : decode cX8_wind 13 = .ok (.ifCond .eq 15, 3) := by decide +kernel
theorem dX8_wind_16 : decode cX8_wind 16 = .ok (.iload_n 2, 1) := by decide +kernel
theorem dX8_wind_17 : decode cX8_wind 17 = .ok (.i2l, 1) := by decide +kernel
theorem dX8_wind_18 : decode cX8_wind 18 = .ok (.lconst 0, 1) := by decide +kernel
theorem dX8_wind_19 : decode cX8_wind 19 = .ok (.ldc2_w 177, 3) := by decide +kernel
theorem dX8_wind_22 : decode cX8_wind 22 = .ok (.invokestatic 79, 3) := by decide +kernel
theorem dX8_wind_25 : decode cX8_wind 25 = .ok (.ifCond .ne 5, 3) := by decide +kernel
theorem dX8_wind_28 : decode cX8_wind 28 = .ok (.iconst (-1), 1) := by decide +kernel
theorem dX8_wind_29 : decode cX8_wind 29 = .ok (.ireturn, 1) := by decide +kernel
theorem dX8_wind_30 : decode cX8_wind 30 = .ok (.iconst 3, 1) := by decide +kernel
theorem dX8_wind_31 : decode cX8_wind 31 = .ok (.aload_n 0, 1) := by decide +kernel
theorem dX8_wind_32 : decode cX8_wind 32 = .ok (.getfield 7, 3) := by decide +kernel
theorem dX8_wind_35 : decode cX8_wind 35 = .ok (.bipush 12, 2) := by decide +kernel
theorem dX8_wind_37 : decode cX8_wind 37 = .ok (.iaload, 1) := by decide +kernel
theorem dX8_wind_38 : decode cX8_wind 38 = .ok (.imul, 1) := by decide +kernel
theorem dX8_wind_39 : decode cX8_wind 39 = .ok (.aload_n 0, 1) := by decide +kernel
theorem dX8_wind_40 : decode cX8_wind 40 = .ok (.getfield 7, 3) := by decide +kernel
theorem dX8_wind_43 : decode cX8_wind 43 = .ok (.bipush 13, 2) := by decide +kernel
theorem dX8_wind_45 : decode cX8_wind 45 = .ok (.iaload, 1) := by decide +kernel
theorem dX8_wind_46 : decode cX8_wind 46 = .ok (.iadd, 1) := by decide +kernel
theorem dX8_wind_47 : decode cX8_wind 47 = .ok (.istore_n 3, 1) := by decide +kernel
theorem dX8_wind_48 : decode cX8_wind 48 = .ok (.aload_n 0, 1) := by decide +kernel
theorem dX8_wind_49 : decode cX8_wind 49 = .ok (.getfield 7, 3) := by decide +kernel
theorem dX8_wind_52 : decode cX8_wind 52 = .ok (.bipush 12, 2) := by decide +kernel
theorem dX8_wind_54 : decode cX8_wind 54 = .ok (.iload_n 1, 1) := by decide +kernel
theorem dX8_wind_55 : decode cX8_wind 55 = .ok (.iastore, 1) := by decide +kernel
theorem dX8_wind_56 : decode cX8_wind 56 = .ok (.aload_n 0, 1) := by decide +kernel
theorem dX8_wind_57 : decode cX8_wind 57 = .ok (.getfield 7, 3) := by decide +kernel
theorem dX8_wind_60 : decode cX8_wind 60 = .ok (.bipush 13, 2) := by decide +kernel
theorem dX8_wind_62 : decode cX8_wind 62 = .ok (.iload_n 2, 1) := by decide +kernel
theorem dX8_wind_63 : decode cX8_wind 63 = .ok (.iastore, 1) := by decide +kernel
theorem dX8_wind_64 : decode cX8_wind 64 = .ok (.iload_n 3, 1) := by decide +kernel
theorem dX8_wind_65 : decode cX8_wind 65 = .ok (.ireturn, 1) := by decide +kernel
theorem dX8_blows_0 : decode cX8_blows 0 = .ok (.aload_n 0, 1) := by decide +kernel
theorem dX8_blows_1 : decode cX8_blows 1 = .ok (.getfield 7, 3) := by decide +kernel
theorem dX8_blows_4 : decode cX8_blows 4 = .ok (.bipush 86, 2) := by decide +kernel
theorem dX8_blows_6 : decode cX8_blows 6 = .ok (.iaload, 1) := by decide +kernel
theorem dX8_blows_7 : decode cX8_blows 7 = .ok (.ireturn, 1) := by decide +kernel
theorem dX8_towerOf_0 : decode cX8_towerOf 0 = .ok (.aload_n 0, 1) := by decide +kernel
theorem dX8_towerOf_1 : decode cX8_towerOf 1 = .ok (.getfield 7, 3) := by decide +kernel
theorem dX8_towerOf_4 : decode cX8_towerOf 4 = .ok (.bipush 14, 2) := by decide +kernel
theorem dX8_towerOf_6 : decode cX8_towerOf 6 = .ok (.iconst 3, 1) := by decide +kernel
theorem dX8_towerOf_7 : decode cX8_towerOf 7 = .ok (.iload_n 1, 1) := by decide +kernel
theorem dX8_towerOf_8 : decode cX8_towerOf 8 = .ok (.imul, 1) := by decide +kernel
theorem dX8_towerOf_9 : decode cX8_towerOf 9 = .ok (.iadd, 1) := by decide +kernel
theorem dX8_towerOf_10 : decode cX8_towerOf 10 = .ok (.iaload, 1) := by decide +kernel
theorem dX8_towerOf_11 : decode cX8_towerOf 11 = .ok (.ireturn, 1) := by decide +kernel
theorem dX8_beatOf_0 : decode cX8_beatOf 0 = .ok (.aload_n 0, 1) := by decide +kernel
theorem dX8_beatOf_1 : decode cX8_beatOf 1 = .ok (.getfield 7, 3) := by decide +kernel
theorem dX8_beatOf_4 : decode cX8_beatOf 4 = .ok (.bipush 14, 2) := by decide +kernel
theorem dX8_beatOf_6 : decode cX8_beatOf 6 = .ok (.iconst 3, 1) := by decide +kernel
theorem dX8_beatOf_7 : decode cX8_beatOf 7 = .ok (.iload_n 1, 1) := by decide +kernel
theorem dX8_beatOf_8 : decode cX8_beatOf 8 = .ok (.imul, 1) := by decide +kernel
theorem dX8_beatOf_9 : decode cX8_beatOf 9 = .ok (.iadd, 1) := by decide +kernel
theorem dX8_beatOf_10 : decode cX8_beatOf 10 = .ok (.iconst 1, 1) := by decide +kernel
theorem dX8_beatOf_11 : decode cX8_beatOf 11 = .ok (.iadd, 1) := by decide +kernel
theorem dX8_beatOf_12 : decode cX8_beatOf 12 = .ok (.iaload, 1) := by decide +kernel
theorem dX8_beatOf_13 : decode cX8_beatOf 13 = .ok (.ireturn, 1) := by decide +kernel
theorem dX8_toneOf_0 : decode cX8_toneOf 0 = .ok (.aload_n 0, 1) := by decide +kernel
theorem dX8_toneOf_1 : decode cX8_toneOf 1 = .ok (.getfield 7, 3) := by decide +kernel
theorem dX8_toneOf_4 : decode cX8_toneOf 4 = .ok (.bipush 14, 2) := by decide +kernel
theorem dX8_toneOf_6 : decode cX8_toneOf 6 = .ok (.iconst 3, 1) := by decide +kernel
theorem dX8_toneOf_7 : decode cX8_toneOf 7 = .ok (.iload_n 1, 1) := by decide +kernel
theorem dX8_toneOf_8 : decode cX8_toneOf 8 = .ok (.imul, 1) := by decide +kernel
theorem dX8_toneOf_9 : decode cX8_toneOf 9 = .ok (.iadd, 1) := by decide +kernel
theorem dX8_toneOf_10 : decode cX8_toneOf 10 = .ok (.iconst 2, 1) := by decide +kernel
theorem dX8_toneOf_11 : decode cX8_toneOf 11 = .ok (.iadd, 1) := by decide +kernel
theorem dX8_toneOf_12 : decode cX8_toneOf 12 = .ok (.iaload, 1) := by decide +kernel
theorem dX8_toneOf_13 : decode cX8_toneOf 13 = .ok (.ireturn, 1) := by decide +kernel
theorem dX8_carry_0 : decode cX8_carry 0 = .ok (.aload_n 0, 1) := by decide +kernel
theorem dX8_carry_1 : decode cX8_carry 1 = .ok (.iload_n 1, 1) := by decide +kernel
theorem dX8_carry_2 : decode cX8_carry 2 = .ok (.invokevirtual 173, 3) := by decide +kernel
theorem dX8_carry_5 : decode cX8_carry 5 = .ok (.ifCond .eq 15, 3) := by decide +kernel
theorem dX8_carry_8 : decode cX8_carry 8 = .ok (.iload_n 2, 1) := by decide +kernel
theorem dX8_carry_9 : decode cX8_carry 9 = .ok (.i2l, 1) := by decide +kernel
theorem dX8_carry_10 : decode cX8_carry 10 = .ok (.lconst 0, 1) := by decide +kernel
theorem dX8_carry_11 : decode cX8_carry 11 = .ok (.ldc2_w 179, 3) := by decide +kernel
theorem dX8_carry_14 : decode cX8_carry 14 = .ok (.invokestatic 79, 3) := by decide +kernel
theorem dX8_carry_17 : decode cX8_carry 17 = .ok (.ifCond .ne 5, 3) := by decide +kernel
theorem dX8_carry_20 : decode cX8_carry 20 = .ok (.iconst (-1), 1) := by decide +kernel
theorem dX8_carry_21 : decode cX8_carry 21 = .ok (.ireturn, 1) := by decide +kernel
theorem dX8_carry_22 : decode cX8_carry 22 = .ok (.iconst 0, 1) := by decide +kernel
theorem dX8_carry_23 : decode cX8_carry 23 = .ok (.istore_n 3, 1) := by decide +kernel
theorem dX8_carry_24 : decode cX8_carry 24 = .ok (.iload_n 3, 1) := by decide +kernel
theorem dX8_carry_25 : decode cX8_carry 25 = .ok (.aload_n 0, 1) := by decide +kernel
theorem dX8_carry_26 : decode cX8_carry 26 = .ok (.invokevirtual 181, 3) := by decide +kernel
theorem dX8_carry_29 : decode cX8_carry 29 = .ok (.if_icmp .ge 33, 3) := by decide +kernel
theorem dX8_carry_32 : decode cX8_carry 32 = .ok (.aload_n 0, 1) := by decide +kernel
theorem dX8_carry_33 : decode cX8_carry 33 = .ok (.iload_n 3, 1) := by decide +kernel
theorem dX8_carry_34 : decode cX8_carry 34 = .ok (.invokevirtual 184, 3) := by decide +kernel
theorem dX8_carry_37 : decode cX8_carry 37 = .ok (.iload_n 1, 1) := by decide +kernel
theorem dX8_carry_38 : decode cX8_carry 38 = .ok (.if_icmp .ne 18, 3) := by decide +kernel
theorem dX8_carry_41 : decode cX8_carry 41 = .ok (.iload_n 2, 1) := by decide +kernel
theorem dX8_carry_42 : decode cX8_carry 42 = .ok (.aload_n 0, 1) := by decide +kernel
theorem dX8_carry_43 : decode cX8_carry 43 = .ok (.iload_n 3, 1) := by decide +kernel
theorem dX8_carry_44 : decode cX8_carry 44 = .ok (.invokevirtual 187, 3) := by decide +kernel
theorem dX8_carry_47 : decode cX8_carry 47 = .ok (.ishr, 1) := by decide +kernel
theorem dX8_carry_48 : decode cX8_carry 48 = .ok (.iconst 1, 1) := by decide +kernel
theorem dX8_carry_49 : decode cX8_carry 49 = .ok (.iand, 1) := by decide +kernel
theorem dX8_carry_50 : decode cX8_carry 50 = .ok (.ifCond .ne 6, 3) := by decide +kernel
theorem dX8_carry_53 : decode cX8_carry 53 = .ok (.bipush (-2), 2) := by decide +kernel
theorem dX8_carry_55 : decode cX8_carry 55 = .ok (.ireturn, 1) := by decide +kernel
theorem dX8_carry_56 : decode cX8_carry 56 = .ok (.iinc 3 1, 3) := by decide +kernel
theorem dX8_carry_59 : decode cX8_carry 59 = .ok (.goto (-35), 3) := by decide +kernel
theorem dX8_carry_62 : decode cX8_carry 62 = .ok (.aload_n 0, 1) := by decide +kernel
theorem dX8_carry_63 : decode cX8_carry 63 = .ok (.getfield 7, 3) := by decide +kernel
theorem dX8_carry_66 : decode cX8_carry 66 = .ok (.bipush 6, 2) := by decide +kernel
theorem dX8_carry_68 : decode cX8_carry 68 = .ok (.iload_n 1, 1) := by decide +kernel
theorem dX8_carry_69 : decode cX8_carry 69 = .ok (.iadd, 1) := by decide +kernel
theorem dX8_carry_70 : decode cX8_carry 70 = .ok (.iaload, 1) := by decide +kernel
theorem dX8_carry_71 : decode cX8_carry 71 = .ok (.istore_n 3, 1) := by decide +kernel
theorem dX8_carry_72 : decode cX8_carry 72 = .ok (.aload_n 0, 1) := by decide +kernel
theorem dX8_carry_73 : decode cX8_carry 73 = .ok (.getfield 7, 3) := by decide +kernel
theorem dX8_carry_76 : decode cX8_carry 76 = .ok (.bipush 6, 2) := by decide +kernel
theorem dX8_carry_78 : decode cX8_carry 78 = .ok (.iload_n 1, 1) := by decide +kernel
theorem dX8_carry_79 : decode cX8_carry 79 = .ok (.iadd, 1) := by decide +kernel
theorem dX8_carry_80 : decode cX8_carry 80 = .ok (.iload_n 2, 1) := by decide +kernel
theorem dX8_carry_81 : decode cX8_carry 81 = .ok (.iastore, 1) := by decide +kernel
theorem dX8_carry_82 : decode cX8_carry 82 = .ok (.iload_n 3, 1) := by decide +kernel
theorem dX8_carry_83 : decode cX8_carry 83 = .ok (.ireturn, 1) := by decide +kernel
theorem dX8_move_0 : decode cX8_move 0 = .ok (.aload_n 0, 1) := by decide +kernel
theorem dX8_move_1 : decode cX8_move 1 = .ok (.iload_n 1, 1) := by decide +kernel
theorem dX8_move_2 : decode cX8_move 2 = .ok (.invokevirtual 173, 3) := by decide +kernel
theorem dX8_move_5 : decode cX8_move 5 = .ok (.ifCond .eq 11, 3) := by decide +kernel
theorem dX8_move_8 : decode cX8_move 8 = .ok (.aload_n 0, 1) := by decide +kernel
theorem dX8_move_9 : decode cX8_move 9 = .ok (.iload_n 2, 1) := by decide +kernel
theorem dX8_move_10 : decode cX8_move 10 = .ok (.invokevirtual 190, 3) := by decide +kernel
theorem dX8_move_13 : decode cX8_move 13 = .ok (.ifCond .ne 5, 3) := by decide +kernel
theorem dX8_move_16 : decode cX8_move 16 = .ok (.iconst (-1), 1) := by decide +kernel
theorem dX8_move_17 : decode cX8_move 17 = .ok (.ireturn, 1) := by decide +kernel
theorem dX8_move_18 : decode cX8_move 18 = .ok (.aload_n 0, 1) := by decide +kernel
theorem dX8_move_19 : decode cX8_move 19 = .ok (.getfield 7, 3) := by decide +kernel
theorem dX8_move_22 : decode cX8_move 22 = .ok (.iconst 0, 1) := by decide +kernel
theorem dX8_move_23 : decode cX8_move 23 = .ok (.iload_n 1, 1) := by decide +kernel
theorem dX8_move_24 : decode cX8_move 24 = .ok (.iadd, 1) := by decide +kernel
theorem dX8_move_25 : decode cX8_move 25 = .ok (.iaload, 1) := by decide +kernel
theorem dX8_move_26 : decode cX8_move 26 = .ok (.istore_n 3, 1) := by decide +kernel
theorem dX8_move_27 : decode cX8_move 27 = .ok (.aload_n 0, 1) := by decide +kernel
theorem dX8_move_28 : decode cX8_move 28 = .ok (.getfield 7, 3) := by decide +kernel
theorem dX8_move_31 : decode cX8_move 31 = .ok (.iconst 0, 1) := by decide +kernel
theorem dX8_move_32 : decode cX8_move 32 = .ok (.iload_n 1, 1) := by decide +kernel
theorem dX8_move_33 : decode cX8_move 33 = .ok (.iadd, 1) := by decide +kernel
theorem dX8_move_34 : decode cX8_move 34 = .ok (.iload_n 2, 1) := by decide +kernel
theorem dX8_move_35 : decode cX8_move 35 = .ok (.iastore, 1) := by decide +kernel
theorem dX8_move_36 : decode cX8_move 36 = .ok (.iload_n 3, 1) := by decide +kernel
theorem dX8_move_37 : decode cX8_move 37 = .ok (.ireturn, 1) := by decide +kernel
theorem dX8_size_0 : decode cX8_size 0 = .ok (.iload_n 0, 1) := by decide +kernel
theorem dX8_size_1 : decode cX8_size 1 = .ok (.ifCond .ge 8, 3) := by decide +kernel
theorem dX8_size_4 : decode cX8_size 4 = .ok (.iload_n 0, 1) := by decide +kernel
theorem dX8_size_5 : decode cX8_size 5 = .ok (.ineg, 1) := by decide +kernel
theorem dX8_size_6 : decode cX8_size 6 = .ok (.goto 4, 3) := by decide +kernel
theorem dX8_size_9 : decode cX8_size 9 = .ok (.iload_n 0, 1) := by decide +kernel
theorem dX8_size_10 : decode cX8_size 10 = .ok (.ireturn, 1) := by decide +kernel
theorem dX8_farOf_0 : decode cX8_farOf 0 = .ok (.iload_n 0, 1) := by decide +kernel
theorem dX8_farOf_1 : decode cX8_farOf 1 = .ok (.bipush 9, 2) := by decide +kernel
theorem dX8_farOf_3 : decode cX8_farOf 3 = .ok (.irem, 1) := by decide +kernel
theorem dX8_farOf_4 : decode cX8_farOf 4 = .ok (.iload_n 1, 1) := by decide +kernel
theorem dX8_farOf_5 : decode cX8_farOf 5 = .ok (.bipush 9, 2) := by decide +kernel
theorem dX8_farOf_7 : decode cX8_farOf 7 = .ok (.irem, 1) := by decide +kernel
theorem dX8_farOf_8 : decode cX8_farOf 8 = .ok (.isub, 1) := by decide +kernel
theorem dX8_farOf_9 : decode cX8_farOf 9 = .ok (.invokestatic 193, 3) := by decide +kernel
theorem dX8_farOf_12 : decode cX8_farOf 12 = .ok (.istore_n 2, 1) := by decide +kernel
theorem dX8_farOf_13 : decode cX8_farOf 13 = .ok (.iload_n 0, 1) := by decide +kernel
theorem dX8_farOf_14 : decode cX8_farOf 14 = .ok (.bipush 9, 2) := by decide +kernel
theorem dX8_farOf_16 : decode cX8_farOf 16 = .ok (.idiv, 1) := by decide +kernel
theorem dX8_farOf_17 : decode cX8_farOf 17 = .ok (.iload_n 1, 1) := by decide +kernel
theorem dX8_farOf_18 : decode cX8_farOf 18 = .ok (.bipush 9, 2) := by decide +kernel
theorem dX8_farOf_20 : decode cX8_farOf 20 = .ok (.idiv, 1) := by decide +kernel
theorem dX8_farOf_21 : decode cX8_farOf 21 = .ok (.isub, 1) := by decide +kernel
theorem dX8_farOf_22 : decode cX8_farOf 22 = .ok (.invokestatic 193, 3) := by decide +kernel
theorem dX8_farOf_25 : decode cX8_farOf 25 = .ok (.istore_n 3, 1) := by decide +kernel
theorem dX8_farOf_26 : decode cX8_farOf 26 = .ok (.iload_n 2, 1) := by decide +kernel
theorem dX8_farOf_27 : decode cX8_farOf 27 = .ok (.iload_n 3, 1) := by decide +kernel
theorem dX8_farOf_28 : decode cX8_farOf 28 = .ok (.if_icmp .le 7, 3) := by decide +kernel
theorem dX8_farOf_31 : decode cX8_farOf 31 = .ok (.iload_n 2, 1) := by decide +kernel
theorem dX8_farOf_32 : decode cX8_farOf 32 = .ok (.goto 4, 3) := by decide +kernel
theorem dX8_farOf_35 : decode cX8_farOf 35 = .ok (.iload_n 3, 1) := by decide +kernel
theorem dX8_farOf_36 : decode cX8_farOf 36 = .ok (.ireturn, 1) := by decide +kernel
theorem dX8_against_0 : decode cX8_against 0 = .ok (.iload_n 0, 1) := by decide +kernel
theorem dX8_against_1 : decode cX8_against 1 = .ok (.ifCond .le 7, 3) := by decide +kernel
theorem dX8_against_4 : decode cX8_against 4 = .ok (.iload_n 1, 1) := by decide +kernel
theorem dX8_against_5 : decode cX8_against 5 = .ok (.ifCond .eq 12, 3) := by decide +kernel
theorem dX8_against_8 : decode cX8_against 8 = .ok (.iload_n 0, 1) := by decide +kernel
theorem dX8_against_9 : decode cX8_against 9 = .ok (.ifCond .ge 15, 3) := by decide +kernel
theorem dX8_against_12 : decode cX8_against 12 = .ok (.iload_n 1, 1) := by decide +kernel
theorem dX8_against_13 : decode cX8_against 13 = .ok (.iconst 2, 1) := by decide +kernel
theorem dX8_against_14 : decode cX8_against 14 = .ok (.if_icmp .ne 10, 3) := by decide +kernel
theorem dX8_against_17 : decode cX8_against 17 = .ok (.iload_n 0, 1) := by decide +kernel
theorem dX8_against_18 : decode cX8_against 18 = .ok (.invokestatic 193, 3) := by decide +kernel
theorem dX8_against_21 : decode cX8_against 21 = .ok (.goto 4, 3) := by decide +kernel
theorem dX8_against_24 : decode cX8_against 24 = .ok (.iconst 0, 1) := by decide +kernel
theorem dX8_against_25 : decode cX8_against 25 = .ok (.ireturn, 1) := by decide +kernel
theorem dX8_takesOf_0 : decode cX8_takesOf 0 = .ok (.aload_n 0, 1) := by decide +kernel
theorem dX8_takesOf_1 : decode cX8_takesOf 1 = .ok (.getfield 13, 3) := by decide +kernel
theorem dX8_takesOf_4 : decode cX8_takesOf 4 = .ok (.iconst 2, 1) := by decide +kernel
theorem dX8_takesOf_5 : decode cX8_takesOf 5 = .ok (.iaload, 1) := by decide +kernel
theorem dX8_takesOf_6 : decode cX8_takesOf 6 = .ok (.iload_n 1, 1) := by decide +kernel
theorem dX8_takesOf_7 : decode cX8_takesOf 7 = .ok (.iload_n 2, 1) := by decide +kernel
theorem dX8_takesOf_8 : decode cX8_takesOf 8 = .ok (.invokestatic 196, 3) := by decide +kernel
theorem dX8_takesOf_11 : decode cX8_takesOf 11 = .ok (.imul, 1) := by decide +kernel
theorem dX8_takesOf_12 : decode cX8_takesOf 12 = .ok (.iload_n 2, 1) := by decide +kernel
theorem dX8_takesOf_13 : decode cX8_takesOf 13 = .ok (.bipush 9, 2) := by decide +kernel
theorem dX8_takesOf_15 : decode cX8_takesOf 15 = .ok (.irem, 1) := by decide +kernel
theorem dX8_takesOf_16 : decode cX8_takesOf 16 = .ok (.iload_n 1, 1) := by decide +kernel
theorem dX8_takesOf_17 : decode cX8_takesOf 17 = .ok (.bipush 9, 2) := by decide +kernel
theorem dX8_takesOf_19 : decode cX8_takesOf 19 = .ok (.irem, 1) := by decide +kernel
theorem dX8_takesOf_20 : decode cX8_takesOf 20 = .ok (.isub, 1) := by decide +kernel
theorem dX8_takesOf_21 : decode cX8_takesOf 21 = .ok (.aload_n 0, 1) := by decide +kernel
theorem dX8_takesOf_22 : decode cX8_takesOf 22 = .ok (.getfield 7, 3) := by decide +kernel
theorem dX8_takesOf_25 : decode cX8_takesOf 25 = .ok (.bipush 12, 2) := by decide +kernel
theorem dX8_takesOf_27 : decode cX8_takesOf 27 = .ok (.iaload, 1) := by decide +kernel
theorem dX8_takesOf_28 : decode cX8_takesOf 28 = .ok (.invokestatic 199, 3) := by decide +kernel
theorem dX8_takesOf_31 : decode cX8_takesOf 31 = .ok (.iadd, 1) := by decide +kernel
theorem dX8_takesOf_32 : decode cX8_takesOf 32 = .ok (.iload_n 2, 1) := by decide +kernel
theorem dX8_takesOf_33 : decode cX8_takesOf 33 = .ok (.bipush 9, 2) := by decide +kernel
theorem dX8_takesOf_35 : decode cX8_takesOf 35 = .ok (.idiv, 1) := by decide +kernel
theorem dX8_takesOf_36 : decode cX8_takesOf 36 = .ok (.iload_n 1, 1) := by decide +kernel
theorem dX8_takesOf_37 : decode cX8_takesOf 37 = .ok (.bipush 9, 2) := by decide +kernel
theorem dX8_takesOf_39 : decode cX8_takesOf 39 = .ok (.idiv, 1) := by decide +kernel
theorem dX8_takesOf_40 : decode cX8_takesOf 40 = .ok (.isub, 1) := by decide +kernel
theorem dX8_takesOf_41 : decode cX8_takesOf 41 = .ok (.aload_n 0, 1) := by decide +kernel
theorem dX8_takesOf_42 : decode cX8_takesOf 42 = .ok (.getfield 7, 3) := by decide +kernel
theorem dX8_takesOf_45 : decode cX8_takesOf 45 = .ok (.bipush 13, 2) := by decide +kernel
theorem dX8_takesOf_47 : decode cX8_takesOf 47 = .ok (.iaload, 1) := by decide +kernel
theorem dX8_takesOf_48 : decode cX8_takesOf 48 = .ok (.invokestatic 199, 3) := by decide +kernel
theorem dX8_takesOf_51 : decode cX8_takesOf 51 = .ok (.iadd, 1) := by decide +kernel
theorem dX8_takesOf_52 : decode cX8_takesOf 52 = .ok (.ireturn, 1) := by decide +kernel
theorem dX8_takes_0 : decode cX8_takes 0 = .ok (.aload_n 0, 1) := by decide +kernel
theorem dX8_takes_1 : decode cX8_takes 1 = .ok (.iload_n 1, 1) := by decide +kernel
theorem dX8_takes_2 : decode cX8_takes 2 = .ok (.invokevirtual 190, 3) := by decide +kernel
theorem dX8_takes_5 : decode cX8_takes 5 = .ok (.ifCond .eq 20, 3) := by decide +kernel
theorem dX8_takes_8 : decode cX8_takes 8 = .ok (.aload_n 0, 1) := by decide +kernel
theorem dX8_takes_9 : decode cX8_takes 9 = .ok (.iload_n 2, 1) := by decide +kernel
theorem dX8_takes_10 : decode cX8_takes 10 = .ok (.invokevirtual 190, 3) := by decide +kernel
theorem dX8_takes_13 : decode cX8_takes 13 = .ok (.ifCond .eq 12, 3) := by decide +kernel
theorem dX8_takes_16 : decode cX8_takes 16 = .ok (.aload_n 0, 1) := by decide +kernel
theorem dX8_takes_17 : decode cX8_takes 17 = .ok (.iload_n 1, 1) := by decide +kernel
theorem dX8_takes_18 : decode cX8_takes 18 = .ok (.iload_n 2, 1) := by decide +kernel
theorem dX8_takes_19 : decode cX8_takes 19 = .ok (.invokevirtual 202, 3) := by decide +kernel
theorem dX8_takes_22 : decode cX8_takes 22 = .ok (.goto 4, 3) := by decide +kernel
theorem dX8_takes_25 : decode cX8_takes 25 = .ok (.iconst (-1), 1) := by decide +kernel
theorem dX8_takes_26 : decode cX8_takes 26 = .ok (.ireturn, 1) := by decide +kernel
theorem dX8_blowing_0 : decode cX8_blowing 0 = .ok (.aload_n 0, 1) := by decide +kernel
theorem dX8_blowing_1 : decode cX8_blowing 1 = .ok (.iload_n 1, 1) := by decide +kernel
theorem dX8_blowing_2 : decode cX8_blowing 2 = .ok (.invokevirtual 173, 3) := by decide +kernel
theorem dX8_blowing_5 : decode cX8_blowing 5 = .ok (.ifCond .eq 27, 3) := by decide +kernel
theorem dX8_blowing_8 : decode cX8_blowing 8 = .ok (.iload_n 2, 1) := by decide +kernel
theorem dX8_blowing_9 : decode cX8_blowing 9 = .ok (.i2l, 1) := by decide +kernel
theorem dX8_blowing_10 : decode cX8_blowing 10 = .ok (.lconst 0, 1) := by decide +kernel
theorem dX8_blowing_11 : decode cX8_blowing 11 = .ok (.ldc2_w 205, 3) := by decide +kernel
theorem dX8_blowing_14 : decode cX8_blowing 14 = .ok (.invokestatic 79, 3) := by decide +kernel
theorem dX8_blowing_17 : decode cX8_blowing 17 = .ok (.ifCond .eq 15, 3) := by decide +kernel
theorem dX8_blowing_20 : decode cX8_blowing 20 = .ok (.iload_n 3, 1) := by decide +kernel
theorem dX8_blowing_21 : decode cX8_blowing 21 = .ok (.i2l, 1) := by decide +kernel
theorem dX8_blowing_22 : decode cX8_blowing 22 = .ok (.lconst 0, 1) := by decide +kernel
theorem dX8_blowing_23 : decode cX8_blowing 23 = .ok (.ldc2_w 207, 3) := by decide +kernel
theorem dX8_blowing_26 : decode cX8_blowing 26 = .ok (.invokestatic 79, 3) := by decide +kernel
theorem dX8_blowing_29 : decode cX8_blowing 29 = .ok (.ifCond .ne 5, 3) := by decide +kernel
theorem dX8_blowing_32 : decode cX8_blowing 32 = .ok (.iconst (-1), 1) := by decide +kernel
theorem dX8_blowing_33 : decode cX8_blowing 33 = .ok (.ireturn, 1) := by decide +kernel
theorem dX8_blowing_34 : decode cX8_blowing 34 = .ok (.aload_n 0, 1) := by decide +kernel
theorem dX8_blowing_35 : decode cX8_blowing 35 = .ok (.getfield 7, 3) := by decide +kernel
theorem dX8_blowing_38 : decode cX8_blowing 38 = .ok (.bipush 6, 2) := by decide +kernel
theorem dX8_blowing_40 : decode cX8_blowing 40 = .ok (.iload_n 1, 1) := by decide +kernel
theorem dX8_blowing_41 : decode cX8_blowing 41 = .ok (.iadd, 1) := by decide +kernel
theorem dX8_blowing_42 : decode cX8_blowing 42 = .ok (.iaload, 1) := by decide +kernel
theorem dX8_blowing_43 : decode cX8_blowing 43 = .ok (.iload_n 3, 1) := by decide +kernel
theorem dX8_blowing_44 : decode cX8_blowing 44 = .ok (.ishr, 1) := by decide +kernel
theorem dX8_blowing_45 : decode cX8_blowing 45 = .ok (.iconst 1, 1) := by decide +kernel
theorem dX8_blowing_46 : decode cX8_blowing 46 = .ok (.iand, 1) := by decide +kernel
theorem dX8_blowing_47 : decode cX8_blowing 47 = .ok (.ifCond .ne 6, 3) := by decide +kernel
theorem dX8_blowing_50 : decode cX8_blowing 50 = .ok (.bipush (-2), 2) := by decide +kernel
theorem dX8_blowing_52 : decode cX8_blowing 52 = .ok (.ireturn, 1) := by decide +kernel
theorem dX8_blowing_53 : decode cX8_blowing 53 = .ok (.aload_n 0, 1) := by decide +kernel
theorem dX8_blowing_54 : decode cX8_blowing 54 = .ok (.invokevirtual 181, 3) := by decide +kernel
theorem dX8_blowing_57 : decode cX8_blowing 57 = .ok (.bipush 24, 2) := by decide +kernel
theorem dX8_blowing_59 : decode cX8_blowing 59 = .ok (.if_icmp .ne 6, 3) := by decide +kernel
theorem dX8_blowing_62 : decode cX8_blowing 62 = .ok (.bipush (-3), 2) := by decide +kernel
theorem dX8_blowing_64 : decode cX8_blowing 64 = .ok (.ireturn, 1) := by decide +kernel
theorem dX8_blowing_65 : decode cX8_blowing 65 = .ok (.aload_n 0, 1) := by decide +kernel
theorem dX8_blowing_66 : decode cX8_blowing 66 = .ok (.aload_n 0, 1) := by decide +kernel
theorem dX8_blowing_67 : decode cX8_blowing 67 = .ok (.invokevirtual 181, 3) := by decide +kernel
theorem dX8_blowing_70 : decode cX8_blowing 70 = .ok (.iload_n 1, 1) := by decide +kernel
theorem dX8_blowing_71 : decode cX8_blowing 71 = .ok (.iload_n 2, 1) := by decide +kernel
theorem dX8_blowing_72 : decode cX8_blowing 72 = .ok (.iload_n 3, 1) := by decide +kernel
theorem dX8_blowing_73 : decode cX8_blowing 73 = .ok (.invokevirtual 209, 3) := by decide +kernel
theorem dX8_blowing_76 : decode cX8_blowing 76 = .ok (.aload_n 0, 1) := by decide +kernel
theorem dX8_blowing_77 : decode cX8_blowing 77 = .ok (.getfield 7, 3) := by decide +kernel
theorem dX8_blowing_80 : decode cX8_blowing 80 = .ok (.bipush 86, 2) := by decide +kernel
theorem dX8_blowing_82 : decode cX8_blowing 82 = .ok (.dup2, 1) := by decide +kernel
theorem dX8_blowing_83 : decode cX8_blowing 83 = .ok (.iaload, 1) := by decide +kernel
theorem dX8_blowing_84 : decode cX8_blowing 84 = .ok (.iconst 1, 1) := by decide +kernel
theorem dX8_blowing_85 : decode cX8_blowing 85 = .ok (.iadd, 1) := by decide +kernel
theorem dX8_blowing_86 : decode cX8_blowing 86 = .ok (.iastore, 1) := by decide +kernel
theorem dX8_blowing_87 : decode cX8_blowing 87 = .ok (.aload_n 0, 1) := by decide +kernel
theorem dX8_blowing_88 : decode cX8_blowing 88 = .ok (.invokevirtual 181, 3) := by decide +kernel
theorem dX8_blowing_91 : decode cX8_blowing 91 = .ok (.ireturn, 1) := by decide +kernel
theorem dX8_puts_0 : decode cX8_puts 0 = .ok (.aload_n 0, 1) := by decide +kernel
theorem dX8_puts_1 : decode cX8_puts 1 = .ok (.getfield 7, 3) := by decide +kernel
theorem dX8_puts_4 : decode cX8_puts 4 = .ok (.bipush 14, 2) := by decide +kernel
theorem dX8_puts_6 : decode cX8_puts 6 = .ok (.iconst 3, 1) := by decide +kernel
theorem dX8_puts_7 : decode cX8_puts 7 = .ok (.iload_n 1, 1) := by decide +kernel
theorem dX8_puts_8 : decode cX8_puts 8 = .ok (.imul, 1) := by decide +kernel
theorem dX8_puts_9 : decode cX8_puts 9 = .ok (.iadd, 1) := by decide +kernel
theorem dX8_puts_10 : decode cX8_puts 10 = .ok (.iload_n 2, 1) := by decide +kernel
theorem dX8_puts_11 : decode cX8_puts 11 = .ok (.iastore, 1) := by decide +kernel
theorem dX8_puts_12 : decode cX8_puts 12 = .ok (.aload_n 0, 1) := by decide +kernel
theorem dX8_puts_13 : decode cX8_puts 13 = .ok (.getfield 7, 3) := by decide +kernel
theorem dX8_puts_16 : decode cX8_puts 16 = .ok (.bipush 14, 2) := by decide +kernel
theorem dX8_puts_18 : decode cX8_puts 18 = .ok (.iconst 3, 1) := by decide +kernel
theorem dX8_puts_19 : decode cX8_puts 19 = .ok (.iload_n 1, 1) := by decide +kernel
theorem dX8_puts_20 : decode cX8_puts 20 = .ok (.imul, 1) := by decide +kernel
theorem dX8_puts_21 : decode cX8_puts 21 = .ok (.iadd, 1) := by decide +kernel
theorem dX8_puts_22 : decode cX8_puts 22 = .ok (.iconst 1, 1) := by decide +kernel
theorem dX8_puts_23 : decode cX8_puts 23 = .ok (.iadd, 1) := by decide +kernel
theorem dX8_puts_24 : decode cX8_puts 24 = .ok (.iload_n 3, 1) := by decide +kernel
theorem dX8_puts_25 : decode cX8_puts 25 = .ok (.iastore, 1) := by decide +kernel
theorem dX8_puts_26 : decode cX8_puts 26 = .ok (.aload_n 0, 1) := by decide +kernel
theorem dX8_puts_27 : decode cX8_puts 27 = .ok (.getfield 7, 3) := by decide +kernel
theorem dX8_puts_30 : decode cX8_puts 30 = .ok (.bipush 14, 2) := by decide +kernel
theorem dX8_puts_32 : decode cX8_puts 32 = .ok (.iconst 3, 1) := by decide +kernel
theorem dX8_puts_33 : decode cX8_puts 33 = .ok (.iload_n 1, 1) := by decide +kernel
theorem dX8_puts_34 : decode cX8_puts 34 = .ok (.imul, 1) := by decide +kernel
theorem dX8_puts_35 : decode cX8_puts 35 = .ok (.iadd, 1) := by decide +kernel
theorem dX8_puts_36 : decode cX8_puts 36 = .ok (.iconst 2, 1) := by decide +kernel
theorem dX8_puts_37 : decode cX8_puts 37 = .ok (.iadd, 1) := by decide +kernel
theorem dX8_puts_38 : decode cX8_puts 38 = .ok (.iload 4, 2) := by decide +kernel
theorem dX8_puts_40 : decode cX8_puts 40 = .ok (.iastore, 1) := by decide +kernel
theorem dX8_puts_41 : decode cX8_puts 41 = .ok (.return_, 1) := by decide +kernel
theorem dX8_blow_0 : decode cX8_blow 0 = .ok (.aload_n 0, 1) := by decide +kernel
theorem dX8_blow_1 : decode cX8_blow 1 = .ok (.iload_n 1, 1) := by decide +kernel
theorem dX8_blow_2 : decode cX8_blow 2 = .ok (.iload_n 2, 1) := by decide +kernel
theorem dX8_blow_3 : decode cX8_blow 3 = .ok (.iload_n 3, 1) := by decide +kernel
theorem dX8_blow_4 : decode cX8_blow 4 = .ok (.invokevirtual 213, 3) := by decide +kernel
theorem dX8_blow_7 : decode cX8_blow 7 = .ok (.ireturn, 1) := by decide +kernel
theorem dX8_silence_0 : decode cX8_silence 0 = .ok (.aload_n 0, 1) := by decide +kernel
theorem dX8_silence_1 : decode cX8_silence 1 = .ok (.invokevirtual 181, 3) := by decide +kernel
theorem dX8_silence_4 : decode cX8_silence 4 = .ok (.istore_n 1, 1) := by decide +kernel
theorem dX8_silence_5 : decode cX8_silence 5 = .ok (.aload_n 0, 1) := by decide +kernel
theorem dX8_silence_6 : decode cX8_silence 6 = .ok (.getfield 7, 3) := by decide +kernel
theorem dX8_silence_9 : decode cX8_silence 9 = .ok (.bipush 86, 2) := by decide +kernel
theorem dX8_silence_11 : decode cX8_silence 11 = .ok (.iconst 0, 1) := by decide +kernel
theorem dX8_silence_12 : decode cX8_silence 12 = .ok (.iastore, 1) := by decide +kernel
theorem dX8_silence_13 : decode cX8_silence 13 = .ok (.aload_n 0, 1) := by decide +kernel
theorem dX8_silence_14 : decode cX8_silence 14 = .ok (.getfield 7, 3) := by decide +kernel
theorem dX8_silence_17 : decode cX8_silence 17 = .ok (.bipush 112, 2) := by decide +kernel
theorem dX8_silence_19 : decode cX8_silence 19 = .ok (.iconst 0, 1) := by decide +kernel
theorem dX8_silence_20 : decode cX8_silence 20 = .ok (.iastore, 1) := by decide +kernel
theorem dX8_silence_21 : decode cX8_silence 21 = .ok (.iload_n 1, 1) := by decide +kernel
theorem dX8_silence_22 : decode cX8_silence 22 = .ok (.ireturn, 1) := by decide +kernel
theorem dX8_comes_0 : decode cX8_comes 0 = .ok (.aload_n 0, 1) := by decide +kernel
theorem dX8_comes_1 : decode cX8_comes 1 = .ok (.iload_n 1, 1) := by decide +kernel
theorem dX8_comes_2 : decode cX8_comes 2 = .ok (.invokevirtual 217, 3) := by decide +kernel
theorem dX8_comes_5 : decode cX8_comes 5 = .ok (.aload_n 0, 1) := by decide +kernel
theorem dX8_comes_6 : decode cX8_comes 6 = .ok (.aload_n 0, 1) := by decide +kernel
theorem dX8_comes_7 : decode cX8_comes 7 = .ok (.getfield 7, 3) := by decide +kernel
theorem dX8_comes_10 : decode cX8_comes 10 = .ok (.iconst 0, 1) := by decide +kernel
theorem dX8_comes_11 : decode cX8_comes 11 = .ok (.aload_n 0, 1) := by decide +kernel
theorem dX8_comes_12 : decode cX8_comes 12 = .ok (.iload_n 1, 1) := by decide +kernel
theorem dX8_comes_13 : decode cX8_comes 13 = .ok (.invokevirtual 184, 3) := by decide +kernel
theorem dX8_comes_16 : decode cX8_comes 16 = .ok (.iadd, 1) := by decide +kernel
theorem dX8_comes_17 : decode cX8_comes 17 = .ok (.iaload, 1) := by decide +kernel
theorem dX8_comes_18 : decode cX8_comes 18 = .ok (.iload_n 2, 1) := by decide +kernel
theorem dX8_comes_19 : decode cX8_comes 19 = .ok (.invokevirtual 202, 3) := by decide +kernel
theorem dX8_comes_22 : decode cX8_comes 22 = .ok (.iadd, 1) := by decide +kernel
theorem dX8_comes_23 : decode cX8_comes 23 = .ok (.ireturn, 1) := by decide +kernel
theorem dX8_comesBy_0 : decode cX8_comesBy 0 = .ok (.iload_n 3, 1) := by decide +kernel
theorem dX8_comesBy_1 : decode cX8_comesBy 1 = .ok (.ifCond .ge 10, 3) := by decide +kernel
theorem dX8_comesBy_4 : decode cX8_comesBy 4 = .ok (.aload_n 0, 1) := by decide +kernel
theorem dX8_comesBy_5 : decode cX8_comesBy 5 = .ok (.iload_n 1, 1) := by decide +kernel
theorem dX8_comesBy_6 : decode cX8_comesBy 6 = .ok (.iload_n 2, 1) := by decide +kernel
theorem dX8_comesBy_7 : decode cX8_comesBy 7 = .ok (.invokevirtual 220, 3) := by decide +kernel
theorem dX8_comesBy_10 : decode cX8_comesBy 10 = .ok (.ireturn, 1) := by decide +kernel
theorem dX8_comesBy_11 : decode cX8_comesBy 11 = .ok (.aload_n 0, 1) := by decide +kernel
theorem dX8_comesBy_12 : decode cX8_comesBy 12 = .ok (.iload_n 1, 1) := by decide +kernel
theorem dX8_comesBy_13 : decode cX8_comesBy 13 = .ok (.aload_n 0, 1) := by decide +kernel
theorem dX8_comesBy_14 : decode cX8_comesBy 14 = .ok (.getfield 16, 3) := by decide +kernel
theorem dX8_comesBy_17 : decode cX8_comesBy 17 = .ok (.iload_n 3, 1) := by decide +kernel
theorem dX8_comesBy_18 : decode cX8_comesBy 18 = .ok (.iaload, 1) := by decide +kernel
theorem dX8_comesBy_19 : decode cX8_comesBy 19 = .ok (.invokevirtual 220, 3) := by decide +kernel
theorem dX8_comesBy_22 : decode cX8_comesBy 22 = .ok (.aload_n 0, 1) := by decide +kernel
theorem dX8_comesBy_23 : decode cX8_comesBy 23 = .ok (.aload_n 0, 1) := by decide +kernel
theorem dX8_comesBy_24 : decode cX8_comesBy 24 = .ok (.getfield 16, 3) := by decide +kernel
theorem dX8_comesBy_27 : decode cX8_comesBy 27 = .ok (.iload_n 3, 1) := by decide +kernel
theorem dX8_comesBy_28 : decode cX8_comesBy 28 = .ok (.iaload, 1) := by decide +kernel
theorem dX8_comesBy_29 : decode cX8_comesBy 29 = .ok (.iload_n 2, 1) := by decide +kernel
theorem dX8_comesBy_30 : decode cX8_comesBy 30 = .ok (.invokevirtual 202, 3) := by decide +kernel
theorem dX8_comesBy_33 : decode cX8_comesBy 33 = .ok (.iadd, 1) := by decide +kernel
theorem dX8_comesBy_34 : decode cX8_comesBy 34 = .ok (.ireturn, 1) := by decide +kernel
theorem dX8_blown_0 : decode cX8_blown 0 = .ok (.aload_n 0, 1) := by decide +kernel
theorem dX8_blown_1 : decode cX8_blown 1 = .ok (.invokevirtual 168, 3) := by decide +kernel
theorem dX8_blown_4 : decode cX8_blown 4 = .ok (.iload_n 1, 1) := by decide +kernel
theorem dX8_blown_5 : decode cX8_blown 5 = .ok (.i2l, 1) := by decide +kernel
theorem dX8_blown_6 : decode cX8_blown 6 = .ok (.lconst 0, 1) := by decide +kernel
theorem dX8_blown_7 : decode cX8_blown 7 = .ok (.aload_n 0, 1) := by decide +kernel
theorem dX8_blown_8 : decode cX8_blown 8 = .ok (.invokevirtual 181, 3) := by decide +kernel
theorem dX8_blown_11 : decode cX8_blown 11 = .ok (.iconst 1, 1) := by decide +kernel
theorem dX8_blown_12 : decode cX8_blown 12 = .ok (.isub, 1) := by decide +kernel
theorem dX8_blown_13 : decode cX8_blown 13 = .ok (.i2l, 1) := by decide +kernel
theorem dX8_blown_14 : decode cX8_blown 14 = .ok (.invokestatic 79, 3) := by decide +kernel
theorem dX8_blown_17 : decode cX8_blown 17 = .ok (.ifCond .ne 5, 3) := by decide +kernel
theorem dX8_blown_20 : decode cX8_blown 20 = .ok (.iconst (-1), 1) := by decide +kernel
theorem dX8_blown_21 : decode cX8_blown 21 = .ok (.ireturn, 1) := by decide +kernel
theorem dX8_blown_22 : decode cX8_blown 22 = .ok (.iload_n 2, 1) := by decide +kernel
theorem dX8_blown_23 : decode cX8_blown 23 = .ok (.i2l, 1) := by decide +kernel
theorem dX8_blown_24 : decode cX8_blown 24 = .ok (.lconst 0, 1) := by decide +kernel
theorem dX8_blown_25 : decode cX8_blown 25 = .ok (.ldc2_w 177, 3) := by decide +kernel
theorem dX8_blown_28 : decode cX8_blown 28 = .ok (.invokestatic 79, 3) := by decide +kernel
theorem dX8_blown_31 : decode cX8_blown 31 = .ok (.ifCond .eq 19, 3) := by decide +kernel
theorem dX8_blown_34 : decode cX8_blown 34 = .ok (.aload_n 0, 1) := by decide +kernel
theorem dX8_blown_35 : decode cX8_blown 35 = .ok (.getfield 7, 3) := by decide +kernel
theorem dX8_blown_38 : decode cX8_blown 38 = .ok (.bipush 14, 2) := by decide +kernel
theorem dX8_blown_40 : decode cX8_blown 40 = .ok (.iconst 3, 1) := by decide +kernel
theorem dX8_blown_41 : decode cX8_blown 41 = .ok (.iload_n 1, 1) := by decide +kernel
theorem dX8_blown_42 : decode cX8_blown 42 = .ok (.imul, 1) := by decide +kernel
theorem dX8_blown_43 : decode cX8_blown 43 = .ok (.iadd, 1) := by decide +kernel
theorem dX8_blown_44 : decode cX8_blown 44 = .ok (.iload_n 2, 1) := by decide +kernel
theorem dX8_blown_45 : decode cX8_blown 45 = .ok (.iadd, 1) := by decide +kernel
theorem dX8_blown_46 : decode cX8_blown 46 = .ok (.iaload, 1) := by decide +kernel
theorem dX8_blown_47 : decode cX8_blown 47 = .ok (.goto 33, 3) := by decide +kernel
theorem dX8_blown_50 : decode cX8_blown 50 = .ok (.iload_n 2, 1) := by decide +kernel
theorem dX8_blown_51 : decode cX8_blown 51 = .ok (.bipush 10, 2) := by decide +kernel
theorem dX8_blown_53 : decode cX8_blown 53 = .ok (.if_icmp .lt 26, 3) := by decide +kernel
theorem dX8_blown_56 : decode cX8_blown 56 = .ok (.aload_n 0, 1) := by decide +kernel
theorem dX8_blown_57 : decode cX8_blown 57 = .ok (.iload_n 2, 1) := by decide +kernel
theorem dX8_blown_58 : decode cX8_blown 58 = .ok (.bipush 10, 2) := by decide +kernel
theorem dX8_blown_60 : decode cX8_blown 60 = .ok (.isub, 1) := by decide +kernel
theorem dX8_blown_61 : decode cX8_blown 61 = .ok (.invokevirtual 190, 3) := by decide +kernel
theorem dX8_blown_64 : decode cX8_blown 64 = .ok (.ifCond .eq 15, 3) := by decide +kernel
theorem dX8_blown_67 : decode cX8_blown 67 = .ok (.aload_n 0, 1) := by decide +kernel
theorem dX8_blown_68 : decode cX8_blown 68 = .ok (.iload_n 1, 1) := by decide +kernel
theorem dX8_blown_69 : decode cX8_blown 69 = .ok (.iload_n 2, 1) := by decide +kernel
theorem dX8_blown_70 : decode cX8_blown 70 = .ok (.bipush 10, 2) := by decide +kernel
theorem dX8_blown_72 : decode cX8_blown 72 = .ok (.isub, 1) := by decide +kernel
theorem dX8_blown_73 : decode cX8_blown 73 = .ok (.invokevirtual 220, 3) := by decide +kernel
theorem dX8_blown_76 : decode cX8_blown 76 = .ok (.goto 4, 3) := by decide +kernel
theorem dX8_blown_79 : decode cX8_blown 79 = .ok (.iconst (-1), 1) := by decide +kernel
theorem dX8_blown_80 : decode cX8_blown 80 = .ok (.ireturn, 1) := by decide +kernel
theorem dX8_heard_0 : decode cX8_heard 0 = .ok (.aload_n 0, 1) := by decide +kernel
theorem dX8_heard_1 : decode cX8_heard 1 = .ok (.iload_n 1, 1) := by decide +kernel
theorem dX8_heard_2 : decode cX8_heard 2 = .ok (.invokevirtual 190, 3) := by decide +kernel
theorem dX8_heard_5 : decode cX8_heard 5 = .ok (.ifCond .eq 15, 3) := by decide +kernel
theorem dX8_heard_8 : decode cX8_heard 8 = .ok (.iload_n 2, 1) := by decide +kernel
theorem dX8_heard_9 : decode cX8_heard 9 = .ok (.i2l, 1) := by decide +kernel
theorem dX8_heard_10 : decode cX8_heard 10 = .ok (.lconst 0, 1) := by decide +kernel
theorem dX8_heard_11 : decode cX8_heard 11 = .ok (.ldc2_w 223, 3) := by decide +kernel
theorem dX8_heard_14 : decode cX8_heard 14 = .ok (.invokestatic 79, 3) := by decide +kernel
theorem dX8_heard_17 : decode cX8_heard 17 = .ok (.ifCond .ne 5, 3) := by decide +kernel
theorem dX8_heard_20 : decode cX8_heard 20 = .ok (.iconst (-1), 1) := by decide +kernel
theorem dX8_heard_21 : decode cX8_heard 21 = .ok (.ireturn, 1) := by decide +kernel
theorem dX8_heard_22 : decode cX8_heard 22 = .ok (.iconst 0, 1) := by decide +kernel
theorem dX8_heard_23 : decode cX8_heard 23 = .ok (.istore 4, 2) := by decide +kernel
theorem dX8_heard_25 : decode cX8_heard 25 = .ok (.iconst 0, 1) := by decide +kernel
theorem dX8_heard_26 : decode cX8_heard 26 = .ok (.istore 5, 2) := by decide +kernel
theorem dX8_heard_28 : decode cX8_heard 28 = .ok (.iload 5, 2) := by decide +kernel
theorem dX8_heard_30 : decode cX8_heard 30 = .ok (.aload_n 0, 1) := by decide +kernel
theorem dX8_heard_31 : decode cX8_heard 31 = .ok (.invokevirtual 181, 3) := by decide +kernel
theorem dX8_heard_34 : decode cX8_heard 34 = .ok (.if_icmp .ge 65, 3) := by decide +kernel
theorem dX8_heard_37 : decode cX8_heard 37 = .ok (.iconst (-1), 1) := by decide +kernel
theorem dX8_heard_38 : decode cX8_heard 38 = .ok (.istore 6, 2) := by decide +kernel
theorem dX8_heard_40 : decode cX8_heard 40 = .ok (.iload 6, 2) := by decide +kernel
theorem dX8_heard_42 : decode cX8_heard 42 = .ok (.iload_n 3, 1) := by decide +kernel
theorem dX8_heard_43 : decode cX8_heard 43 = .ok (.ifCond .eq 10, 3) := by decide +kernel
theorem dX8_heard_46 : decode cX8_heard 46 = .ok (.aload_n 0, 1) := by decide +kernel
theorem dX8_heard_47 : decode cX8_heard 47 = .ok (.getfield 153, 3) := by decide +kernel
theorem dX8_heard_50 : decode cX8_heard 50 = .ok (.goto 4, 3) := by decide +kernel
theorem dX8_heard_53 : decode cX8_heard 53 = .ok (.iconst 0, 1) := by decide +kernel
theorem dX8_heard_54 : decode cX8_heard 54 = .ok (.if_icmp .ge 39, 3) := by decide +kernel
theorem dX8_heard_57 : decode cX8_heard 57 = .ok (.iload 4, 2) := by decide +kernel
theorem dX8_heard_59 : decode cX8_heard 59 = .ok (.aload_n 0, 1) := by decide +kernel
theorem dX8_heard_60 : decode cX8_heard 60 = .ok (.iload 5, 2) := by decide +kernel
theorem dX8_heard_62 : decode cX8_heard 62 = .ok (.iload_n 1, 1) := by decide +kernel
theorem dX8_heard_63 : decode cX8_heard 63 = .ok (.iload 6, 2) := by decide +kernel
theorem dX8_heard_65 : decode cX8_heard 65 = .ok (.invokevirtual 225, 3) := by decide +kernel
theorem dX8_heard_68 : decode cX8_heard 68 = .ok (.iload_n 2, 1) := by decide +kernel
theorem dX8_heard_69 : decode cX8_heard 69 = .ok (.if_icmp .ne 14, 3) := by decide +kernel
theorem dX8_heard_72 : decode cX8_heard 72 = .ok (.iconst 1, 1) := by decide +kernel
theorem dX8_heard_73 : decode cX8_heard 73 = .ok (.aload_n 0, 1) := by decide +kernel
theorem dX8_heard_74 : decode cX8_heard 74 = .ok (.iload 5, 2) := by decide +kernel
theorem dX8_heard_76 : decode cX8_heard 76 = .ok (.invokevirtual 187, 3) := by decide +kernel
theorem dX8_heard_79 : decode cX8_heard 79 = .ok (.ishl, 1) := by decide +kernel
theorem dX8_heard_80 : decode cX8_heard 80 = .ok (.goto 4, 3) := by decide +kernel
theorem dX8_heard_83 : decode cX8_heard 83 = .ok (.iconst 0, 1) := by decide +kernel
theorem dX8_heard_84 : decode cX8_heard 84 = .ok (.ior, 1) := by decide +kernel
theorem dX8_heard_85 : decode cX8_heard 85 = .ok (.istore 4, 2) := by decide +kernel
theorem dX8_heard_87 : decode cX8_heard 87 = .ok (.iinc 6 1, 3) := by decide +kernel
theorem dX8_heard_90 : decode cX8_heard 90 = .ok (.goto (-50), 3) := by decide +kernel
theorem dX8_heard_93 : decode cX8_heard 93 = .ok (.iinc 5 1, 3) := by decide +kernel
theorem dX8_heard_96 : decode cX8_heard 96 = .ok (.goto (-68), 3) := by decide +kernel
theorem dX8_heard_99 : decode cX8_heard 99 = .ok (.iload 4, 2) := by decide +kernel
theorem dX8_heard_101 : decode cX8_heard 101 = .ok (.ireturn, 1) := by decide +kernel
theorem dX8_span_0 : decode cX8_span 0 = .ok (.aload_n 0, 1) := by decide +kernel
theorem dX8_span_1 : decode cX8_span 1 = .ok (.iload_n 1, 1) := by decide +kernel
theorem dX8_span_2 : decode cX8_span 2 = .ok (.invokevirtual 190, 3) := by decide +kernel
theorem dX8_span_5 : decode cX8_span 5 = .ok (.ifCond .eq 15, 3) := by decide +kernel
theorem dX8_span_8 : decode cX8_span 8 = .ok (.iload_n 2, 1) := by decide +kernel
theorem dX8_span_9 : decode cX8_span 9 = .ok (.i2l, 1) := by decide +kernel
theorem dX8_span_10 : decode cX8_span 10 = .ok (.lconst 0, 1) := by decide +kernel
theorem dX8_span_11 : decode cX8_span 11 = .ok (.ldc2_w 177, 3) := by decide +kernel
theorem dX8_span_14 : decode cX8_span 14 = .ok (.invokestatic 79, 3) := by decide +kernel
theorem dX8_span_17 : decode cX8_span 17 = .ok (.ifCond .ne 5, 3) := by decide +kernel
theorem dX8_span_20 : decode cX8_span 20 = .ok (.iconst (-1), 1) := by decide +kernel
theorem dX8_span_21 : decode cX8_span 21 = .ok (.ireturn, 1) := by decide +kernel
theorem dX8_span_22 : decode cX8_span 22 = .ok (.bipush (-4), 2) := by decide +kernel
theorem dX8_span_24 : decode cX8_span 24 = .ok (.istore_n 3, 1) := by decide +kernel
theorem dX8_span_25 : decode cX8_span 25 = .ok (.bipush (-4), 2) := by decide +kernel
theorem dX8_span_27 : decode cX8_span 27 = .ok (.istore 4, 2) := by decide +kernel
theorem dX8_span_29 : decode cX8_span 29 = .ok (.iconst 0, 1) := by decide +kernel
theorem dX8_span_30 : decode cX8_span 30 = .ok (.istore 5, 2) := by decide +kernel
theorem dX8_span_32 : decode cX8_span 32 = .ok (.iload 5, 2) := by decide +kernel
theorem dX8_span_34 : decode cX8_span 34 = .ok (.aload_n 0, 1) := by decide +kernel
theorem dX8_span_35 : decode cX8_span 35 = .ok (.invokevirtual 181, 3) := by decide +kernel
theorem dX8_span_38 : decode cX8_span 38 = .ok (.if_icmp .ge 73, 3) := by decide +kernel
theorem dX8_span_41 : decode cX8_span 41 = .ok (.iconst (-1), 1) := by decide +kernel
theorem dX8_span_42 : decode cX8_span 42 = .ok (.istore 6, 2) := by decide +kernel
theorem dX8_span_44 : decode cX8_span 44 = .ok (.iload 6, 2) := by decide +kernel
theorem dX8_span_46 : decode cX8_span 46 = .ok (.aload_n 0, 1) := by decide +kernel
theorem dX8_span_47 : decode cX8_span 47 = .ok (.getfield 153, 3) := by decide +kernel
theorem dX8_span_50 : decode cX8_span 50 = .ok (.if_icmp .ge 55, 3) := by decide +kernel
theorem dX8_span_53 : decode cX8_span 53 = .ok (.aload_n 0, 1) := by decide +kernel
theorem dX8_span_54 : decode cX8_span 54 = .ok (.iload 5, 2) := by decide +kernel
theorem dX8_span_56 : decode cX8_span 56 = .ok (.iload_n 1, 1) := by decide +kernel
theorem dX8_span_57 : decode cX8_span 57 = .ok (.iload 6, 2) := by decide +kernel
theorem dX8_span_59 : decode cX8_span 59 = .ok (.invokevirtual 225, 3) := by decide +kernel
theorem dX8_span_62 : decode cX8_span 62 = .ok (.istore 7, 2) := by decide +kernel
theorem dX8_span_64 : decode cX8_span 64 = .ok (.iload_n 3, 1) := by decide +kernel
theorem dX8_span_65 : decode cX8_span 65 = .ok (.bipush (-4), 2) := by decide +kernel
theorem dX8_span_67 : decode cX8_span 67 = .ok (.if_icmp .eq 9, 3) := by decide +kernel
theorem dX8_span_70 : decode cX8_span 70 = .ok (.iload 7, 2) := by decide +kernel
theorem dX8_span_72 : decode cX8_span 72 = .ok (.iload_n 3, 1) := by decide +kernel
theorem dX8_span_73 : decode cX8_span 73 = .ok (.if_icmp .ge 8, 3) := by decide +kernel
theorem dX8_span_76 : decode cX8_span 76 = .ok (.iload 7, 2) := by decide +kernel
theorem dX8_span_78 : decode cX8_span 78 = .ok (.goto 4, 3) := by decide +kernel
theorem dX8_span_81 : decode cX8_span 81 = .ok (.iload_n 3, 1) := by decide +kernel
theorem dX8_span_82 : decode cX8_span 82 = .ok (.istore_n 3, 1) := by decide +kernel
theorem dX8_span_83 : decode cX8_span 83 = .ok (.iload 7, 2) := by decide +kernel
theorem dX8_span_85 : decode cX8_span 85 = .ok (.iload 4, 2) := by decide +kernel
theorem dX8_span_87 : decode cX8_span 87 = .ok (.if_icmp .le 8, 3) := by decide +kernel
theorem dX8_span_90 : decode cX8_span 90 = .ok (.iload 7, 2) := by decide +kernel
theorem dX8_span_92 : decode cX8_span 92 = .ok (.goto 5, 3) := by decide +kernel
theorem dX8_span_95 : decode cX8_span 95 = .ok (.iload 4, 2) := by decide +kernel
theorem dX8_span_97 : decode cX8_span 97 = .ok (.istore 4, 2) := by decide +kernel
theorem dX8_span_99 : decode cX8_span 99 = .ok (.iinc 6 1, 3) := by decide +kernel
theorem dX8_span_102 : decode cX8_span 102 = .ok (.goto (-58), 3) := by decide +kernel
theorem dX8_span_105 : decode cX8_span 105 = .ok (.iinc 5 1, 3) := by decide +kernel
theorem dX8_span_108 : decode cX8_span 108 = .ok (.goto (-76), 3) := by decide +kernel
theorem dX8_span_111 : decode cX8_span 111 = .ok (.iload_n 2, 1) := by decide +kernel
theorem dX8_span_112 : decode cX8_span 112 = .ok (.ifCond .ne 7, 3) := by decide +kernel
theorem dX8_span_115 : decode cX8_span 115 = .ok (.iload_n 3, 1) := by decide +kernel
theorem dX8_span_116 : decode cX8_span 116 = .ok (.goto 24, 3) := by decide +kernel
theorem dX8_span_119 : decode cX8_span 119 = .ok (.iload_n 2, 1) := by decide +kernel
theorem dX8_span_120 : decode cX8_span 120 = .ok (.iconst 1, 1) := by decide +kernel
theorem dX8_span_121 : decode cX8_span 121 = .ok (.if_icmp .ne 8, 3) := by decide +kernel
theorem dX8_span_124 : decode cX8_span 124 = .ok (.iload 4, 2) := by decide +kernel
theorem dX8_span_126 : decode cX8_span 126 = .ok (.goto 14, 3) := by decide +kernel
theorem dX8_span_129 : decode cX8_span 129 = .ok (.aload_n 0, 1) := by decide +kernel
theorem dX8_span_130 : decode cX8_span 130 = .ok (.invokevirtual 181, 3) := by decide +kernel
theorem dX8_span_133 : decode cX8_span 133 = .ok (.aload_n 0, 1) := by decide +kernel
theorem dX8_span_134 : decode cX8_span 134 = .ok (.getfield 153, 3) := by decide +kernel
theorem dX8_span_137 : decode cX8_span 137 = .ok (.iconst 1, 1) := by decide +kernel
theorem dX8_span_138 : decode cX8_span 138 = .ok (.iadd, 1) := by decide +kernel
theorem dX8_span_139 : decode cX8_span 139 = .ok (.imul, 1) := by decide +kernel
theorem dX8_span_140 : decode cX8_span 140 = .ok (.ireturn, 1) := by decide +kernel
theorem dX8_soonest_0 : decode cX8_soonest 0 = .ok (.iconst 0, 1) := by decide +kernel
theorem dX8_soonest_1 : decode cX8_soonest 1 = .ok (.istore_n 2, 1) := by decide +kernel
theorem dX8_soonest_2 : decode cX8_soonest 2 = .ok (.iconst 0, 1) := by decide +kernel
theorem dX8_soonest_3 : decode cX8_soonest 3 = .ok (.istore_n 3, 1) := by decide +kernel
theorem dX8_soonest_4 : decode cX8_soonest 4 = .ok (.iload_n 3, 1) := by decide +kernel
theorem dX8_soonest_5 : decode cX8_soonest 5 = .ok (.aload_n 0, 1) := by decide +kernel
theorem dX8_soonest_6 : decode cX8_soonest 6 = .ok (.getfield 156, 3) := by decide +kernel
theorem dX8_soonest_9 : decode cX8_soonest 9 = .ok (.if_icmp .ge 51, 3) := by decide +kernel
theorem dX8_soonest_12 : decode cX8_soonest 12 = .ok (.aload_n 0, 1) := by decide +kernel
theorem dX8_soonest_13 : decode cX8_soonest 13 = .ok (.aload_n 0, 1) := by decide +kernel
theorem dX8_soonest_14 : decode cX8_soonest 14 = .ok (.getfield 7, 3) := by decide +kernel
theorem dX8_soonest_17 : decode cX8_soonest 17 = .ok (.iconst 0, 1) := by decide +kernel
theorem dX8_soonest_18 : decode cX8_soonest 18 = .ok (.aload_n 0, 1) := by decide +kernel
theorem dX8_soonest_19 : decode cX8_soonest 19 = .ok (.getfield 43, 3) := by decide +kernel
theorem dX8_soonest_22 : decode cX8_soonest 22 = .ok (.iload_n 3, 1) := by decide +kernel
theorem dX8_soonest_23 : decode cX8_soonest 23 = .ok (.iaload, 1) := by decide +kernel
theorem dX8_soonest_24 : decode cX8_soonest 24 = .ok (.iadd, 1) := by decide +kernel
theorem dX8_soonest_25 : decode cX8_soonest 25 = .ok (.iaload, 1) := by decide +kernel
theorem dX8_soonest_26 : decode cX8_soonest 26 = .ok (.iload_n 1, 1) := by decide +kernel
theorem dX8_soonest_27 : decode cX8_soonest 27 = .ok (.invokevirtual 202, 3) := by decide +kernel
theorem dX8_soonest_30 : decode cX8_soonest 30 = .ok (.aload_n 0, 1) := by decide +kernel
theorem dX8_soonest_31 : decode cX8_soonest 31 = .ok (.getfield 19, 3) := by decide +kernel
theorem dX8_soonest_34 : decode cX8_soonest 34 = .ok (.iconst 2, 1) := by decide +kernel
theorem dX8_soonest_35 : decode cX8_soonest 35 = .ok (.iload_n 3, 1) := by decide +kernel
theorem dX8_soonest_36 : decode cX8_soonest 36 = .ok (.imul, 1) := by decide +kernel
theorem dX8_soonest_37 : decode cX8_soonest 37 = .ok (.iaload, 1) := by decide +kernel
theorem dX8_soonest_38 : decode cX8_soonest 38 = .ok (.isub, 1) := by decide +kernel
theorem dX8_soonest_39 : decode cX8_soonest 39 = .ok (.istore 4, 2) := by decide +kernel
theorem dX8_soonest_41 : decode cX8_soonest 41 = .ok (.iload 4, 2) := by decide +kernel
theorem dX8_soonest_43 : decode cX8_soonest 43 = .ok (.iload_n 2, 1) := by decide +kernel
theorem dX8_soonest_44 : decode cX8_soonest 44 = .ok (.if_icmp .le 8, 3) := by decide +kernel
theorem dX8_soonest_47 : decode cX8_soonest 47 = .ok (.iload 4, 2) := by decide +kernel
theorem dX8_soonest_49 : decode cX8_soonest 49 = .ok (.goto 4, 3) := by decide +kernel
theorem dX8_soonest_52 : decode cX8_soonest 52 = .ok (.iload_n 2, 1) := by decide +kernel
theorem dX8_soonest_53 : decode cX8_soonest 53 = .ok (.istore_n 2, 1) := by decide +kernel
theorem dX8_soonest_54 : decode cX8_soonest 54 = .ok (.iinc 3 1, 3) := by decide +kernel
theorem dX8_soonest_57 : decode cX8_soonest 57 = .ok (.goto (-53), 3) := by decide +kernel
theorem dX8_soonest_60 : decode cX8_soonest 60 = .ok (.iconst 0, 1) := by decide +kernel
theorem dX8_soonest_61 : decode cX8_soonest 61 = .ok (.istore_n 3, 1) := by decide +kernel
theorem dX8_soonest_62 : decode cX8_soonest 62 = .ok (.iload_n 3, 1) := by decide +kernel
theorem dX8_soonest_63 : decode cX8_soonest 63 = .ok (.aload_n 0, 1) := by decide +kernel
theorem dX8_soonest_64 : decode cX8_soonest 64 = .ok (.getfield 156, 3) := by decide +kernel
theorem dX8_soonest_67 : decode cX8_soonest 67 = .ok (.if_icmp .ge 59, 3) := by decide +kernel
theorem dX8_soonest_70 : decode cX8_soonest 70 = .ok (.aload_n 0, 1) := by decide +kernel
theorem dX8_soonest_71 : decode cX8_soonest 71 = .ok (.iload_n 3, 1) := by decide +kernel
theorem dX8_soonest_72 : decode cX8_soonest 72 = .ok (.aload_n 0, 1) := by decide +kernel
theorem dX8_soonest_73 : decode cX8_soonest 73 = .ok (.getfield 43, 3) := by decide +kernel
theorem dX8_soonest_76 : decode cX8_soonest 76 = .ok (.iload_n 3, 1) := by decide +kernel
theorem dX8_soonest_77 : decode cX8_soonest 77 = .ok (.iaload, 1) := by decide +kernel
theorem dX8_soonest_78 : decode cX8_soonest 78 = .ok (.aload_n 0, 1) := by decide +kernel
theorem dX8_soonest_79 : decode cX8_soonest 79 = .ok (.getfield 19, 3) := by decide +kernel
theorem dX8_soonest_82 : decode cX8_soonest 82 = .ok (.iconst 2, 1) := by decide +kernel
theorem dX8_soonest_83 : decode cX8_soonest 83 = .ok (.iload_n 3, 1) := by decide +kernel
theorem dX8_soonest_84 : decode cX8_soonest 84 = .ok (.imul, 1) := by decide +kernel
theorem dX8_soonest_85 : decode cX8_soonest 85 = .ok (.iaload, 1) := by decide +kernel
theorem dX8_soonest_86 : decode cX8_soonest 86 = .ok (.iload_n 2, 1) := by decide +kernel
theorem dX8_soonest_87 : decode cX8_soonest 87 = .ok (.iadd, 1) := by decide +kernel
theorem dX8_soonest_88 : decode cX8_soonest 88 = .ok (.aload_n 0, 1) := by decide +kernel
theorem dX8_soonest_89 : decode cX8_soonest 89 = .ok (.aload_n 0, 1) := by decide +kernel
theorem dX8_soonest_90 : decode cX8_soonest 90 = .ok (.getfield 7, 3) := by decide +kernel
theorem dX8_soonest_93 : decode cX8_soonest 93 = .ok (.iconst 0, 1) := by decide +kernel
theorem dX8_soonest_94 : decode cX8_soonest 94 = .ok (.aload_n 0, 1) := by decide +kernel
theorem dX8_soonest_95 : decode cX8_soonest 95 = .ok (.getfield 43, 3) := by decide +kernel
theorem dX8_soonest_98 : decode cX8_soonest 98 = .ok (.iload_n 3, 1) := by decide +kernel
theorem dX8_soonest_99 : decode cX8_soonest 99 = .ok (.iaload, 1) := by decide +kernel
theorem dX8_soonest_100 : decode cX8_soonest 100 = .ok (.iadd, 1) := by decide +kernel
theorem dX8_soonest_101 : decode cX8_soonest 101 = .ok (.iaload, 1) := by decide +kernel
theorem dX8_soonest_102 : decode cX8_soonest 102 = .ok (.iload_n 1, 1) := by decide +kernel
theorem dX8_soonest_103 : decode cX8_soonest 103 = .ok (.invokevirtual 202, 3) := by decide +kernel
theorem dX8_soonest_106 : decode cX8_soonest 106 = .ok (.isub, 1) := by decide +kernel
theorem dX8_soonest_107 : decode cX8_soonest 107 = .ok (.aload_n 0, 1) := by decide +kernel
theorem dX8_soonest_108 : decode cX8_soonest 108 = .ok (.getfield 19, 3) := by decide +kernel
theorem dX8_soonest_111 : decode cX8_soonest 111 = .ok (.iconst 2, 1) := by decide +kernel
theorem dX8_soonest_112 : decode cX8_soonest 112 = .ok (.iload_n 3, 1) := by decide +kernel
theorem dX8_soonest_113 : decode cX8_soonest 113 = .ok (.imul, 1) := by decide +kernel
theorem dX8_soonest_114 : decode cX8_soonest 114 = .ok (.iconst 1, 1) := by decide +kernel
theorem dX8_soonest_115 : decode cX8_soonest 115 = .ok (.iadd, 1) := by decide +kernel
theorem dX8_soonest_116 : decode cX8_soonest 116 = .ok (.iaload, 1) := by decide +kernel
theorem dX8_soonest_117 : decode cX8_soonest 117 = .ok (.invokevirtual 209, 3) := by decide +kernel
theorem dX8_soonest_120 : decode cX8_soonest 120 = .ok (.iinc 3 1, 3) := by decide +kernel
theorem dX8_soonest_123 : decode cX8_soonest 123 = .ok (.goto (-61), 3) := by decide +kernel
theorem dX8_soonest_126 : decode cX8_soonest 126 = .ok (.aload_n 0, 1) := by decide +kernel
theorem dX8_soonest_127 : decode cX8_soonest 127 = .ok (.getfield 7, 3) := by decide +kernel
theorem dX8_soonest_130 : decode cX8_soonest 130 = .ok (.bipush 86, 2) := by decide +kernel
theorem dX8_soonest_132 : decode cX8_soonest 132 = .ok (.aload_n 0, 1) := by decide +kernel
theorem dX8_soonest_133 : decode cX8_soonest 133 = .ok (.getfield 156, 3) := by decide +kernel
theorem dX8_soonest_136 : decode cX8_soonest 136 = .ok (.iastore, 1) := by decide +kernel
theorem dX8_soonest_137 : decode cX8_soonest 137 = .ok (.aload_n 0, 1) := by decide +kernel
theorem dX8_soonest_138 : decode cX8_soonest 138 = .ok (.getfield 7, 3) := by decide +kernel
theorem dX8_soonest_141 : decode cX8_soonest 141 = .ok (.bipush 112, 2) := by decide +kernel
theorem dX8_soonest_143 : decode cX8_soonest 143 = .ok (.iconst 0, 1) := by decide +kernel
theorem dX8_soonest_144 : decode cX8_soonest 144 = .ok (.iastore, 1) := by decide +kernel
theorem dX8_soonest_145 : decode cX8_soonest 145 = .ok (.iload_n 2, 1) := by decide +kernel
theorem dX8_soonest_146 : decode cX8_soonest 146 = .ok (.ireturn, 1) := by decide +kernel
theorem dX8_has_0 : decode cX8_has 0 = .ok (.aload_n 0, 1) := by decide +kernel
theorem dX8_has_1 : decode cX8_has 1 = .ok (.getfield 7, 3) := by decide +kernel
theorem dX8_has_4 : decode cX8_has 4 = .ok (.bipush 6, 2) := by decide +kernel
theorem dX8_has_6 : decode cX8_has 6 = .ok (.iload_n 1, 1) := by decide +kernel
theorem dX8_has_7 : decode cX8_has 7 = .ok (.iadd, 1) := by decide +kernel
theorem dX8_has_8 : decode cX8_has 8 = .ok (.iaload, 1) := by decide +kernel
theorem dX8_has_9 : decode cX8_has 9 = .ok (.iload_n 2, 1) := by decide +kernel
theorem dX8_has_10 : decode cX8_has 10 = .ok (.ishr, 1) := by decide +kernel
theorem dX8_has_11 : decode cX8_has 11 = .ok (.iconst 1, 1) := by decide +kernel
theorem dX8_has_12 : decode cX8_has 12 = .ok (.iand, 1) := by decide +kernel
theorem dX8_has_13 : decode cX8_has 13 = .ok (.iconst 1, 1) := by decide +kernel
theorem dX8_has_14 : decode cX8_has 14 = .ok (.if_icmp .ne 7, 3) := by decide +kernel
theorem dX8_has_17 : decode cX8_has 17 = .ok (.iconst 1, 1) := by decide +kernel
theorem dX8_has_18 : decode cX8_has 18 = .ok (.goto 4, 3) := by decide +kernel
theorem dX8_has_21 : decode cX8_has 21 = .ok (.iconst 0, 1) := by decide +kernel
theorem dX8_has_22 : decode cX8_has 22 = .ok (.ireturn, 1) := by decide +kernel
theorem dX8_plays_0 : decode cX8_plays 0 = .ok (.aload_n 0, 1) := by decide +kernel
theorem dX8_plays_1 : decode cX8_plays 1 = .ok (.iload_n 1, 1) := by decide +kernel
theorem dX8_plays_2 : decode cX8_plays 2 = .ok (.invokevirtual 190, 3) := by decide +kernel
theorem dX8_plays_5 : decode cX8_plays 5 = .ok (.ifCond .ne 5, 3) := by decide +kernel
theorem dX8_plays_8 : decode cX8_plays 8 = .ok (.iconst (-1), 1) := by decide +kernel
theorem dX8_plays_9 : decode cX8_plays 9 = .ok (.ireturn, 1) := by decide +kernel
theorem dX8_plays_10 : decode cX8_plays 10 = .ok (.aload_n 0, 1) := by decide +kernel
theorem dX8_plays_11 : decode cX8_plays 11 = .ok (.getfield 156, 3) := by decide +kernel
theorem dX8_plays_14 : decode cX8_plays 14 = .ok (.ifCond .ne 6, 3) := by decide +kernel
theorem dX8_plays_17 : decode cX8_plays 17 = .ok (.bipush (-2), 2) := by decide +kernel
theorem dX8_plays_19 : decode cX8_plays 19 = .ok (.ireturn, 1) := by decide +kernel
theorem dX8_plays_20 : decode cX8_plays 20 = .ok (.iconst 0, 1) := by decide +kernel
theorem dX8_plays_21 : decode cX8_plays 21 = .ok (.istore_n 2, 1) := by decide +kernel
theorem dX8_plays_22 : decode cX8_plays 22 = .ok (.iload_n 2, 1) := by decide +kernel
theorem dX8_plays_23 : decode cX8_plays 23 = .ok (.aload_n 0, 1) := by decide +kernel
theorem dX8_plays_24 : decode cX8_plays 24 = .ok (.getfield 156, 3) := by decide +kernel
theorem dX8_plays_27 : decode cX8_plays 27 = .ok (.if_icmp .ge 115, 3) := by decide +kernel
theorem dX8_plays_30 : decode cX8_plays 30 = .ok (.bipush (-4), 2) := by decide +kernel
theorem dX8_plays_32 : decode cX8_plays 32 = .ok (.istore_n 3, 1) := by decide +kernel
theorem dX8_plays_33 : decode cX8_plays 33 = .ok (.iconst 0, 1) := by decide +kernel
theorem dX8_plays_34 : decode cX8_plays 34 = .ok (.istore 4, 2) := by decide +kernel
theorem dX8_plays_36 : decode cX8_plays 36 = .ok (.iload 4, 2) := by decide +kernel
theorem dX8_plays_38 : decode cX8_plays 38 = .ok (.aload_n 0, 1) := by decide +kernel
theorem dX8_plays_39 : decode cX8_plays 39 = .ok (.getfield 7, 3) := by decide +kernel
theorem dX8_plays_42 : decode cX8_plays 42 = .ok (.bipush 113, 2) := by decide +kernel
theorem dX8_plays_44 : decode cX8_plays 44 = .ok (.iaload, 1) := by decide +kernel
theorem dX8_plays_45 : decode cX8_plays 45 = .ok (.if_icmp .ge 75, 3) := by decide +kernel
theorem dX8_plays_48 : decode cX8_plays 48 = .ok (.aload_n 0, 1) := by decide +kernel
theorem dX8_plays_49 : decode cX8_plays 49 = .ok (.iload 4, 2) := by decide +kernel
theorem dX8_plays_51 : decode cX8_plays 51 = .ok (.aload_n 0, 1) := by decide +kernel
theorem dX8_plays_52 : decode cX8_plays 52 = .ok (.getfield 19, 3) := by decide +kernel
theorem dX8_plays_55 : decode cX8_plays 55 = .ok (.iconst 2, 1) := by decide +kernel
theorem dX8_plays_56 : decode cX8_plays 56 = .ok (.iload_n 2, 1) := by decide +kernel
theorem dX8_plays_57 : decode cX8_plays 57 = .ok (.imul, 1) := by decide +kernel
theorem dX8_plays_58 : decode cX8_plays 58 = .ok (.iconst 1, 1) := by decide +kernel
theorem dX8_plays_59 : decode cX8_plays 59 = .ok (.iadd, 1) := by decide +kernel
theorem dX8_plays_60 : decode cX8_plays 60 = .ok (.iaload, 1) := by decide +kernel
theorem dX8_plays_61 : decode cX8_plays 61 = .ok (.invokevirtual 228, 3) := by decide +kernel
theorem dX8_plays_64 : decode cX8_plays 64 = .ok (.istore 5, 2) := by decide +kernel
theorem dX8_plays_66 : decode cX8_plays 66 = .ok (.iload 5, 2) := by decide +kernel
theorem dX8_plays_68 : decode cX8_plays 68 = .ok (.ifCond .eq 44, 3) := by decide +kernel
theorem dX8_plays_71 : decode cX8_plays 71 = .ok (.iload_n 3, 1) := by decide +kernel
theorem dX8_plays_72 : decode cX8_plays 72 = .ok (.bipush (-4), 2) := by decide +kernel
theorem dX8_plays_74 : decode cX8_plays 74 = .ok (.if_icmp .eq 33, 3) := by decide +kernel
theorem dX8_plays_77 : decode cX8_plays 77 = .ok (.aload_n 0, 1) := by decide +kernel
theorem dX8_plays_78 : decode cX8_plays 78 = .ok (.aload_n 0, 1) := by decide +kernel
theorem dX8_plays_79 : decode cX8_plays 79 = .ok (.getfield 7, 3) := by decide +kernel
theorem dX8_plays_82 : decode cX8_plays 82 = .ok (.iconst 0, 1) := by decide +kernel
theorem dX8_plays_83 : decode cX8_plays 83 = .ok (.iload 4, 2) := by decide +kernel
theorem dX8_plays_85 : decode cX8_plays 85 = .ok (.iadd, 1) := by decide +kernel
theorem dX8_plays_86 : decode cX8_plays 86 = .ok (.iaload, 1) := by decide +kernel
theorem dX8_plays_87 : decode cX8_plays 87 = .ok (.iload_n 1, 1) := by decide +kernel
theorem dX8_plays_88 : decode cX8_plays 88 = .ok (.invokevirtual 202, 3) := by decide +kernel
theorem dX8_plays_91 : decode cX8_plays 91 = .ok (.aload_n 0, 1) := by decide +kernel
theorem dX8_plays_92 : decode cX8_plays 92 = .ok (.aload_n 0, 1) := by decide +kernel
theorem dX8_plays_93 : decode cX8_plays 93 = .ok (.getfield 7, 3) := by decide +kernel
theorem dX8_plays_96 : decode cX8_plays 96 = .ok (.iconst 0, 1) := by decide +kernel
theorem dX8_plays_97 : decode cX8_plays 97 = .ok (.iload_n 3, 1) := by decide +kernel
theorem dX8_plays_98 : decode cX8_plays 98 = .ok (.iadd, 1) := by decide +kernel
theorem dX8_plays_99 : decode cX8_plays 99 = .ok (.iaload, 1) := by decide +kernel
theorem dX8_plays_100 : decode cX8_plays 100 = .ok (.iload_n 1, 1) := by decide +kernel
theorem dX8_plays_101 : decode cX8_plays 101 = .ok (.invokevirtual 202, 3) := by decide +kernel
theorem dX8_plays_104 : decode cX8_plays 104 = .ok (.if_icmp .ge 8, 3) := by decide +kernel
theorem dX8_plays_107 : decode cX8_plays 107 = .ok (.iload 4, 2) := by decide +kernel
theorem dX8_plays_109 : decode cX8_plays 109 = .ok (.goto 4, 3) := by decide +kernel
theorem dX8_plays_112 : decode cX8_plays 112 = .ok (.iload_n 3, 1) := by decide +kernel
theorem dX8_plays_113 : decode cX8_plays 113 = .ok (.istore_n 3, 1) := by decide +kernel
theorem dX8_plays_114 : decode cX8_plays 114 = .ok (.iinc 4 1, 3) := by decide +kernel
theorem dX8_plays_117 : decode cX8_plays 117 = .ok (.goto (-81), 3) := by decide +kernel
theorem dX8_plays_120 : decode cX8_plays 120 = .ok (.iload_n 3, 1) := by decide +kernel
theorem dX8_plays_121 : decode cX8_plays 121 = .ok (.bipush (-4), 2) := by decide +kernel
theorem dX8_plays_123 : decode cX8_plays 123 = .ok (.if_icmp .ne 6, 3) := by decide +kernel
theorem dX8_plays_126 : decode cX8_plays 126 = .ok (.bipush (-4), 2) := by decide +kernel
theorem dX8_plays_128 : decode cX8_plays 128 = .ok (.ireturn, 1) := by decide +kernel
theorem dX8_plays_129 : decode cX8_plays 129 = .ok (.aload_n 0, 1) := by decide +kernel
theorem dX8_plays_130 : decode cX8_plays 130 = .ok (.getfield 43, 3) := by decide +kernel
theorem dX8_plays_133 : decode cX8_plays 133 = .ok (.iload_n 2, 1) := by decide +kernel
theorem dX8_plays_134 : decode cX8_plays 134 = .ok (.iload_n 3, 1) := by decide +kernel
theorem dX8_plays_135 : decode cX8_plays 135 = .ok (.iastore, 1) := by decide +kernel
theorem dX8_plays_136 : decode cX8_plays 136 = .ok (.iinc 2 1, 3) := by decide +kernel
theorem dX8_plays_139 : decode cX8_plays 139 = .ok (.goto (-117), 3) := by decide +kernel
theorem dX8_plays_142 : decode cX8_plays 142 = .ok (.aload_n 0, 1) := by decide +kernel
theorem dX8_plays_143 : decode cX8_plays 143 = .ok (.iload_n 1, 1) := by decide +kernel
theorem dX8_plays_144 : decode cX8_plays 144 = .ok (.invokevirtual 232, 3) := by decide +kernel
theorem dX8_plays_147 : decode cX8_plays 147 = .ok (.ireturn, 1) := by decide +kernel
theorem dX8_rightAt_0 : decode cX8_rightAt 0 = .ok (.aload_n 0, 1) := by decide +kernel
theorem dX8_rightAt_1 : decode cX8_rightAt 1 = .ok (.invokevirtual 181, 3) := by decide +kernel
theorem dX8_rightAt_4 : decode cX8_rightAt 4 = .ok (.aload_n 0, 1) := by decide +kernel
theorem dX8_rightAt_5 : decode cX8_rightAt 5 = .ok (.getfield 156, 3) := by decide +kernel
theorem dX8_rightAt_8 : decode cX8_rightAt 8 = .ok (.if_icmp .eq 6, 3) := by decide +kernel
theorem dX8_rightAt_11 : decode cX8_rightAt 11 = .ok (.bipush (-4), 2) := by decide +kernel
theorem dX8_rightAt_13 : decode cX8_rightAt 13 = .ok (.ireturn, 1) := by decide +kernel
theorem dX8_rightAt_14 : decode cX8_rightAt 14 = .ok (.aload_n 0, 1) := by decide +kernel
theorem dX8_rightAt_15 : decode cX8_rightAt 15 = .ok (.iconst 0, 1) := by decide +kernel
theorem dX8_rightAt_16 : decode cX8_rightAt 16 = .ok (.iload_n 1, 1) := by decide +kernel
theorem dX8_rightAt_17 : decode cX8_rightAt 17 = .ok (.invokevirtual 220, 3) := by decide +kernel
theorem dX8_rightAt_20 : decode cX8_rightAt 20 = .ok (.istore_n 2, 1) := by decide +kernel
theorem dX8_rightAt_21 : decode cX8_rightAt 21 = .ok (.iconst 1, 1) := by decide +kernel
theorem dX8_rightAt_22 : decode cX8_rightAt 22 = .ok (.istore_n 3, 1) := by decide +kernel
theorem dX8_rightAt_23 : decode cX8_rightAt 23 = .ok (.iload_n 3, 1) := by decide +kernel
theorem dX8_rightAt_24 : decode cX8_rightAt 24 = .ok (.aload_n 0, 1) := by decide +kernel
theorem dX8_rightAt_25 : decode cX8_rightAt 25 = .ok (.invokevirtual 181, 3) := by decide +kernel
theorem dX8_rightAt_28 : decode cX8_rightAt 28 = .ok (.if_icmp .ge 30, 3) := by decide +kernel
theorem dX8_rightAt_31 : decode cX8_rightAt 31 = .ok (.aload_n 0, 1) := by decide +kernel
theorem dX8_rightAt_32 : decode cX8_rightAt 32 = .ok (.iload_n 3, 1) := by decide +kernel
theorem dX8_rightAt_33 : decode cX8_rightAt 33 = .ok (.iload_n 1, 1) := by decide +kernel
theorem dX8_rightAt_34 : decode cX8_rightAt 34 = .ok (.invokevirtual 220, 3) := by decide +kernel
theorem dX8_rightAt_37 : decode cX8_rightAt 37 = .ok (.iload_n 2, 1) := by decide +kernel
theorem dX8_rightAt_38 : decode cX8_rightAt 38 = .ok (.if_icmp .ge 12, 3) := by decide +kernel
theorem dX8_rightAt_41 : decode cX8_rightAt 41 = .ok (.aload_n 0, 1) := by decide +kernel
theorem dX8_rightAt_42 : decode cX8_rightAt 42 = .ok (.iload_n 3, 1) := by decide +kernel
theorem dX8_rightAt_43 : decode cX8_rightAt 43 = .ok (.iload_n 1, 1) := by decide +kernel
theorem dX8_rightAt_44 : decode cX8_rightAt 44 = .ok (.invokevirtual 220, 3) := by decide +kernel
theorem dX8_rightAt_47 : decode cX8_rightAt 47 = .ok (.goto 4, 3) := by decide +kernel
theorem dX8_rightAt_50 : decode cX8_rightAt 50 = .ok (.iload_n 2, 1) := by decide +kernel
theorem dX8_rightAt_51 : decode cX8_rightAt 51 = .ok (.istore_n 2, 1) := by decide +kernel
theorem dX8_rightAt_52 : decode cX8_rightAt 52 = .ok (.iinc 3 1, 3) := by decide +kernel
theorem dX8_rightAt_55 : decode cX8_rightAt 55 = .ok (.goto (-32), 3) := by decide +kernel
theorem dX8_rightAt_58 : decode cX8_rightAt 58 = .ok (.iload_n 2, 1) := by decide +kernel
theorem dX8_rightAt_59 : decode cX8_rightAt 59 = .ok (.aload_n 0, 1) := by decide +kernel
theorem dX8_rightAt_60 : decode cX8_rightAt 60 = .ok (.getfield 19, 3) := by decide +kernel
theorem dX8_rightAt_63 : decode cX8_rightAt 63 = .ok (.iconst 0, 1) := by decide +kernel
theorem dX8_rightAt_64 : decode cX8_rightAt 64 = .ok (.iaload, 1) := by decide +kernel
theorem dX8_rightAt_65 : decode cX8_rightAt 65 = .ok (.isub, 1) := by decide +kernel
theorem dX8_rightAt_66 : decode cX8_rightAt 66 = .ok (.istore_n 3, 1) := by decide +kernel
theorem dX8_rightAt_67 : decode cX8_rightAt 67 = .ok (.iconst 0, 1) := by decide +kernel
theorem dX8_rightAt_68 : decode cX8_rightAt 68 = .ok (.istore 4, 2) := by decide +kernel
theorem dX8_rightAt_70 : decode cX8_rightAt 70 = .ok (.iload 4, 2) := by decide +kernel
theorem dX8_rightAt_72 : decode cX8_rightAt 72 = .ok (.aload_n 0, 1) := by decide +kernel
theorem dX8_rightAt_73 : decode cX8_rightAt 73 = .ok (.getfield 156, 3) := by decide +kernel
theorem dX8_rightAt_76 : decode cX8_rightAt 76 = .ok (.if_icmp .ge 145, 3) := by decide +kernel
theorem dX8_rightAt_79 : decode cX8_rightAt 79 = .ok (.iconst 0, 1) := by decide +kernel
theorem dX8_rightAt_80 : decode cX8_rightAt 80 = .ok (.istore 5, 2) := by decide +kernel
theorem dX8_rightAt_82 : decode cX8_rightAt 82 = .ok (.iconst 0, 1) := by decide +kernel
theorem dX8_rightAt_83 : decode cX8_rightAt 83 = .ok (.istore 6, 2) := by decide +kernel
theorem dX8_rightAt_85 : decode cX8_rightAt 85 = .ok (.iload 6, 2) := by decide +kernel
theorem dX8_rightAt_87 : decode cX8_rightAt 87 = .ok (.aload_n 0, 1) := by decide +kernel
theorem dX8_rightAt_88 : decode cX8_rightAt 88 = .ok (.getfield 156, 3) := by decide +kernel
theorem dX8_rightAt_91 : decode cX8_rightAt 91 = .ok (.if_icmp .ge 116, 3) := by decide +kernel
theorem dX8_rightAt_94 : decode cX8_rightAt 94 = .ok (.iload 5, 2) := by decide +kernel
theorem dX8_rightAt_96 : decode cX8_rightAt 96 = .ok (.aload_n 0, 1) := by decide +kernel
theorem dX8_rightAt_97 : decode cX8_rightAt 97 = .ok (.getfield 19, 3) := by decide +kernel
theorem dX8_rightAt_100 : decode cX8_rightAt 100 = .ok (.iconst 2, 1) := by decide +kernel
theorem dX8_rightAt_101 : decode cX8_rightAt 101 = .ok (.iload 6, 2) := by decide +kernel
theorem dX8_rightAt_103 : decode cX8_rightAt 103 = .ok (.imul, 1) := by decide +kernel
theorem dX8_rightAt_104 : decode cX8_rightAt 104 = .ok (.iaload, 1) := by decide +kernel
theorem dX8_rightAt_105 : decode cX8_rightAt 105 = .ok (.aload_n 0, 1) := by decide +kernel
theorem dX8_rightAt_106 : decode cX8_rightAt 106 = .ok (.getfield 19, 3) := by decide +kernel
theorem dX8_rightAt_109 : decode cX8_rightAt 109 = .ok (.iconst 2, 1) := by decide +kernel
theorem dX8_rightAt_110 : decode cX8_rightAt 110 = .ok (.iload 4, 2) := by decide +kernel
theorem dX8_rightAt_112 : decode cX8_rightAt 112 = .ok (.imul, 1) := by decide +kernel
theorem dX8_rightAt_113 : decode cX8_rightAt 113 = .ok (.iaload, 1) := by decide +kernel
theorem dX8_rightAt_114 : decode cX8_rightAt 114 = .ok (.if_icmp .ne 32, 3) := by decide +kernel
theorem dX8_rightAt_117 : decode cX8_rightAt 117 = .ok (.aload_n 0, 1) := by decide +kernel
theorem dX8_rightAt_118 : decode cX8_rightAt 118 = .ok (.getfield 19, 3) := by decide +kernel
theorem dX8_rightAt_121 : decode cX8_rightAt 121 = .ok (.iconst 2, 1) := by decide +kernel
theorem dX8_rightAt_122 : decode cX8_rightAt 122 = .ok (.iload 6, 2) := by decide +kernel
theorem dX8_rightAt_124 : decode cX8_rightAt 124 = .ok (.imul, 1) := by decide +kernel
theorem dX8_rightAt_125 : decode cX8_rightAt 125 = .ok (.iconst 1, 1) := by decide +kernel
theorem dX8_rightAt_126 : decode cX8_rightAt 126 = .ok (.iadd, 1) := by decide +kernel
theorem dX8_rightAt_127 : decode cX8_rightAt 127 = .ok (.iaload, 1) := by decide +kernel
theorem dX8_rightAt_128 : decode cX8_rightAt 128 = .ok (.aload_n 0, 1) := by decide +kernel
theorem dX8_rightAt_129 : decode cX8_rightAt 129 = .ok (.getfield 19, 3) := by decide +kernel
theorem dX8_rightAt_132 : decode cX8_rightAt 132 = .ok (.iconst 2, 1) := by decide +kernel
theorem dX8_rightAt_133 : decode cX8_rightAt 133 = .ok (.iload 4, 2) := by decide +kernel
theorem dX8_rightAt_135 : decode cX8_rightAt 135 = .ok (.imul, 1) := by decide +kernel
theorem dX8_rightAt_136 : decode cX8_rightAt 136 = .ok (.iconst 1, 1) := by decide +kernel
theorem dX8_rightAt_137 : decode cX8_rightAt 137 = .ok (.iadd, 1) := by decide +kernel
theorem dX8_rightAt_138 : decode cX8_rightAt 138 = .ok (.iaload, 1) := by decide +kernel
theorem dX8_rightAt_139 : decode cX8_rightAt 139 = .ok (.if_icmp .ne 7, 3) := by decide +kernel
theorem dX8_rightAt_142 : decode cX8_rightAt 142 = .ok (.iconst 1, 1) := by decide +kernel
theorem dX8_rightAt_143 : decode cX8_rightAt 143 = .ok (.goto 4, 3) := by decide +kernel
theorem dX8_rightAt_146 : decode cX8_rightAt 146 = .ok (.iconst 0, 1) := by decide +kernel
theorem dX8_rightAt_147 : decode cX8_rightAt 147 = .ok (.iadd, 1) := by decide +kernel
theorem dX8_rightAt_148 : decode cX8_rightAt 148 = .ok (.istore 5, 2) := by decide +kernel
theorem dX8_rightAt_150 : decode cX8_rightAt 150 = .ok (.iload 5, 2) := by decide +kernel
theorem dX8_rightAt_152 : decode cX8_rightAt 152 = .ok (.aload_n 0, 1) := by decide +kernel
theorem dX8_rightAt_153 : decode cX8_rightAt 153 = .ok (.iload 6, 2) := by decide +kernel
theorem dX8_rightAt_155 : decode cX8_rightAt 155 = .ok (.iload_n 1, 1) := by decide +kernel
theorem dX8_rightAt_156 : decode cX8_rightAt 156 = .ok (.invokevirtual 220, 3) := by decide +kernel
theorem dX8_rightAt_159 : decode cX8_rightAt 159 = .ok (.aload_n 0, 1) := by decide +kernel
theorem dX8_rightAt_160 : decode cX8_rightAt 160 = .ok (.getfield 19, 3) := by decide +kernel
theorem dX8_rightAt_163 : decode cX8_rightAt 163 = .ok (.iconst 2, 1) := by decide +kernel
theorem dX8_rightAt_164 : decode cX8_rightAt 164 = .ok (.iload 4, 2) := by decide +kernel
theorem dX8_rightAt_166 : decode cX8_rightAt 166 = .ok (.imul, 1) := by decide +kernel
theorem dX8_rightAt_167 : decode cX8_rightAt 167 = .ok (.iaload, 1) := by decide +kernel
theorem dX8_rightAt_168 : decode cX8_rightAt 168 = .ok (.iload_n 3, 1) := by decide +kernel
theorem dX8_rightAt_169 : decode cX8_rightAt 169 = .ok (.iadd, 1) := by decide +kernel
theorem dX8_rightAt_170 : decode cX8_rightAt 170 = .ok (.if_icmp .ne 27, 3) := by decide +kernel
theorem dX8_rightAt_173 : decode cX8_rightAt 173 = .ok (.aload_n 0, 1) := by decide +kernel
theorem dX8_rightAt_174 : decode cX8_rightAt 174 = .ok (.iload 6, 2) := by decide +kernel
theorem dX8_rightAt_176 : decode cX8_rightAt 176 = .ok (.invokevirtual 187, 3) := by decide +kernel
theorem dX8_rightAt_179 : decode cX8_rightAt 179 = .ok (.aload_n 0, 1) := by decide +kernel
theorem dX8_rightAt_180 : decode cX8_rightAt 180 = .ok (.getfield 19, 3) := by decide +kernel
theorem dX8_rightAt_183 : decode cX8_rightAt 183 = .ok (.iconst 2, 1) := by decide +kernel
theorem dX8_rightAt_184 : decode cX8_rightAt 184 = .ok (.iload 4, 2) := by decide +kernel
theorem dX8_rightAt_186 : decode cX8_rightAt 186 = .ok (.imul, 1) := by decide +kernel
theorem dX8_rightAt_187 : decode cX8_rightAt 187 = .ok (.iconst 1, 1) := by decide +kernel
theorem dX8_rightAt_188 : decode cX8_rightAt 188 = .ok (.iadd, 1) := by decide +kernel
theorem dX8_rightAt_189 : decode cX8_rightAt 189 = .ok (.iaload, 1) := by decide +kernel
theorem dX8_rightAt_190 : decode cX8_rightAt 190 = .ok (.if_icmp .ne 7, 3) := by decide +kernel
theorem dX8_rightAt_193 : decode cX8_rightAt 193 = .ok (.iconst 1, 1) := by decide +kernel
theorem dX8_rightAt_194 : decode cX8_rightAt 194 = .ok (.goto 4, 3) := by decide +kernel
theorem dX8_rightAt_197 : decode cX8_rightAt 197 = .ok (.iconst 0, 1) := by decide +kernel
theorem dX8_rightAt_198 : decode cX8_rightAt 198 = .ok (.isub, 1) := by decide +kernel
theorem dX8_rightAt_199 : decode cX8_rightAt 199 = .ok (.istore 5, 2) := by decide +kernel
theorem dX8_rightAt_201 : decode cX8_rightAt 201 = .ok (.iinc 6 1, 3) := by decide +kernel
theorem dX8_rightAt_204 : decode cX8_rightAt 204 = .ok (.goto (-119), 3) := by decide +kernel
theorem dX8_rightAt_207 : decode cX8_rightAt 207 = .ok (.iload 5, 2) := by decide +kernel
theorem dX8_rightAt_209 : decode cX8_rightAt 209 = .ok (.ifCond .eq 6, 3) := by decide +kernel
theorem dX8_rightAt_212 : decode cX8_rightAt 212 = .ok (.bipush (-4), 2) := by decide +kernel
theorem dX8_rightAt_214 : decode cX8_rightAt 214 = .ok (.ireturn, 1) := by decide +kernel
theorem dX8_rightAt_215 : decode cX8_rightAt 215 = .ok (.iinc 4 1, 3) := by decide +kernel
theorem dX8_rightAt_218 : decode cX8_rightAt 218 = .ok (.goto (-148), 3) := by decide +kernel
theorem dX8_rightAt_221 : decode cX8_rightAt 221 = .ok (.sipush 1000, 3) := by decide +kernel
theorem dX8_rightAt_224 : decode cX8_rightAt 224 = .ok (.iload_n 3, 1) := by decide +kernel
theorem dX8_rightAt_225 : decode cX8_rightAt 225 = .ok (.iadd, 1) := by decide +kernel
theorem dX8_rightAt_226 : decode cX8_rightAt 226 = .ok (.ireturn, 1) := by decide +kernel
