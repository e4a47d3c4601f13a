theorem dX2_linkOne_14 : decode cX2_linkOne 14 = .ok (.getfield 185, 3) := by decide +kernel
theorem dX2_linkOne_17 : decode cX2_linkOne 17 = .ok (.bipush 6, 2) := by decide +kernel
theorem dX2_linkOne_19 : decode cX2_linkOne 19 = .ok (.iload_n 1, 1) := by decide +kernel
theorem dX2_linkOne_20 : decode cX2_linkOne 20 = .ok (.iadd, 1) := by decide +kernel
theorem dX2_linkOne_21 : decode cX2_linkOne 21 = .ok (.iaload, 1) := by decide +kernel
theorem dX2_linkOne_22 : decode cX2_linkOne 22 = .ok (.aload_n 0, 1) := by decide +kernel
theorem dX2_linkOne_23 : decode cX2_linkOne 23 = .ok (.getfield 35, 3) := by decide +kernel
theorem dX2_linkOne_26 : decode cX2_linkOne 26 = .ok (.invokevirtual 229, 3) := by decide +kernel
theorem dX2_linkOne_29 : decode cX2_linkOne 29 = .ok (.istore 4, 2) := by decide +kernel
theorem dX2_linkOne_31 : decode cX2_linkOne 31 = .ok (.iload 4, 2) := by decide +kernel
theorem dX2_linkOne_33 : decode cX2_linkOne 33 = .ok (.sipush 200, 3) := by decide +kernel
theorem dX2_linkOne_36 : decode cX2_linkOne 36 = .ok (.if_icmp .le 10, 3) := by decide +kernel
theorem dX2_linkOne_39 : decode cX2_linkOne 39 = .ok (.bipush 7, 2) := by decide +kernel
theorem dX2_linkOne_41 : decode cX2_linkOne 41 = .ok (.iload_n 1, 1) := by decide +kernel
theorem dX2_linkOne_42 : decode cX2_linkOne 42 = .ok (.invokestatic 240, 3) := by decide +kernel
theorem dX2_linkOne_45 : decode cX2_linkOne 45 = .ok (.ireturn, 1) := by decide +kernel
theorem dX2_linkOne_46 : decode cX2_linkOne 46 = .ok (.aload_n 3, 1) := by decide +kernel
theorem dX2_linkOne_47 : decode cX2_linkOne 47 = .ok (.iload_n 1, 1) := by decide +kernel
theorem dX2_linkOne_48 : decode cX2_linkOne 48 = .ok (.aload_n 2, 1) := by decide +kernel
theorem dX2_linkOne_49 : decode cX2_linkOne 49 = .ok (.getfield 203, 3) := by decide +kernel
theorem dX2_linkOne_52 : decode cX2_linkOne 52 = .ok (.iload_n 1, 1) := by decide +kernel
theorem dX2_linkOne_53 : decode cX2_linkOne 53 = .ok (.iaload, 1) := by decide +kernel
theorem dX2_linkOne_54 : decode cX2_linkOne 54 = .ok (.aload_n 0, 1) := by decide +kernel
theorem dX2_linkOne_55 : decode cX2_linkOne 55 = .ok (.getfield 35, 3) := by decide +kernel
theorem dX2_linkOne_58 : decode cX2_linkOne 58 = .ok (.iload 4, 2) := by decide +kernel
theorem dX2_linkOne_60 : decode cX2_linkOne 60 = .ok (.invokevirtual 243, 3) := by decide +kernel
theorem dX2_linkOne_63 : decode cX2_linkOne 63 = .ok (.aload_n 3, 1) := by decide +kernel
theorem dX2_linkOne_64 : decode cX2_linkOne 64 = .ok (.iload_n 1, 1) := by decide +kernel
theorem dX2_linkOne_65 : decode cX2_linkOne 65 = .ok (.aload_n 2, 1) := by decide +kernel
theorem dX2_linkOne_66 : decode cX2_linkOne 66 = .ok (.iload_n 1, 1) := by decide +kernel
theorem dX2_linkOne_67 : decode cX2_linkOne 67 = .ok (.invokevirtual 247, 3) := by decide +kernel
theorem dX2_linkOne_70 : decode cX2_linkOne 70 = .ok (.iconst 0, 1) := by decide +kernel
theorem dX2_linkOne_71 : decode cX2_linkOne 71 = .ok (.ireturn, 1) := by decide +kernel
theorem dX2_linkBoth_0 : decode cX2_linkBoth 0 = .ok (.aload_n 0, 1) := by decide +kernel
theorem dX2_linkBoth_1 : decode cX2_linkBoth 1 = .ok (.getfield 21, 3) := by decide +kernel
theorem dX2_linkBoth_4 : decode cX2_linkBoth 4 = .ok (.aload_n 2, 1) := by decide +kernel
theorem dX2_linkBoth_5 : decode cX2_linkBoth 5 = .ok (.getfield 181, 3) := by decide +kernel
theorem dX2_linkBoth_8 : decode cX2_linkBoth 8 = .ok (.bipush 6, 2) := by decide +kernel
theorem dX2_linkBoth_10 : decode cX2_linkBoth 10 = .ok (.iload_n 1, 1) := by decide +kernel
theorem dX2_linkBoth_11 : decode cX2_linkBoth 11 = .ok (.iadd, 1) := by decide +kernel
theorem dX2_linkBoth_12 : decode cX2_linkBoth 12 = .ok (.aaload, 1) := by decide +kernel
theorem dX2_linkBoth_13 : decode cX2_linkBoth 13 = .ok (.aload_n 2, 1) := by decide +kernel
theorem dX2_linkBoth_14 : decode cX2_linkBoth 14 = .ok (.getfield 185, 3) := by decide +kernel
theorem dX2_linkBoth_17 : decode cX2_linkBoth 17 = .ok (.bipush 6, 2) := by decide +kernel
theorem dX2_linkBoth_19 : decode cX2_linkBoth 19 = .ok (.iload_n 1, 1) := by decide +kernel
theorem dX2_linkBoth_20 : decode cX2_linkBoth 20 = .ok (.iadd, 1) := by decide +kernel
theorem dX2_linkBoth_21 : decode cX2_linkBoth 21 = .ok (.iaload, 1) := by decide +kernel
theorem dX2_linkBoth_22 : decode cX2_linkBoth 22 = .ok (.aload_n 0, 1) := by decide +kernel
theorem dX2_linkBoth_23 : decode cX2_linkBoth 23 = .ok (.getfield 35, 3) := by decide +kernel
theorem dX2_linkBoth_26 : decode cX2_linkBoth 26 = .ok (.invokevirtual 229, 3) := by decide +kernel
theorem dX2_linkBoth_29 : decode cX2_linkBoth 29 = .ok (.istore 5, 2) := by decide +kernel
theorem dX2_linkBoth_31 : decode cX2_linkBoth 31 = .ok (.aload_n 0, 1) := by decide +kernel
theorem dX2_linkBoth_32 : decode cX2_linkBoth 32 = .ok (.getfield 21, 3) := by decide +kernel
theorem dX2_linkBoth_35 : decode cX2_linkBoth 35 = .ok (.aload_n 3, 1) := by decide +kernel
theorem dX2_linkBoth_36 : decode cX2_linkBoth 36 = .ok (.getfield 181, 3) := by decide +kernel
theorem dX2_linkBoth_39 : decode cX2_linkBoth 39 = .ok (.bipush 6, 2) := by decide +kernel
theorem dX2_linkBoth_41 : decode cX2_linkBoth 41 = .ok (.iload_n 1, 1) := by decide +kernel
theorem dX2_linkBoth_42 : decode cX2_linkBoth 42 = .ok (.iadd, 1) := by decide +kernel
theorem dX2_linkBoth_43 : decode cX2_linkBoth 43 = .ok (.aaload, 1) := by decide +kernel
theorem dX2_linkBoth_44 : decode cX2_linkBoth 44 = .ok (.aload_n 3, 1) := by decide +kernel
theorem dX2_linkBoth_45 : decode cX2_linkBoth 45 = .ok (.getfield 185, 3) := by decide +kernel
theorem dX2_linkBoth_48 : decode cX2_linkBoth 48 = .ok (.bipush 6, 2) := by decide +kernel
theorem dX2_linkBoth_50 : decode cX2_linkBoth 50 = .ok (.iload_n 1, 1) := by decide +kernel
theorem dX2_linkBoth_51 : decode cX2_linkBoth 51 = .ok (.iadd, 1) := by decide +kernel
theorem dX2_linkBoth_52 : decode cX2_linkBoth 52 = .ok (.iaload, 1) := by decide +kernel
theorem dX2_linkBoth_53 : decode cX2_linkBoth 53 = .ok (.aload_n 0, 1) := by decide +kernel
theorem dX2_linkBoth_54 : decode cX2_linkBoth 54 = .ok (.getfield 39, 3) := by decide +kernel
theorem dX2_linkBoth_57 : decode cX2_linkBoth 57 = .ok (.invokevirtual 229, 3) := by decide +kernel
theorem dX2_linkBoth_60 : decode cX2_linkBoth 60 = .ok (.istore 6, 2) := by decide +kernel
theorem dX2_linkBoth_62 : decode cX2_linkBoth 62 = .ok (.iload 5, 2) := by decide +kernel
theorem dX2_linkBoth_64 : decode cX2_linkBoth 64 = .ok (.sipush 200, 3) := by decide +kernel
theorem dX2_linkBoth_67 : decode cX2_linkBoth 67 = .ok (.if_icmp .gt 11, 3) := by decide +kernel
theorem dX2_linkBoth_70 : decode cX2_linkBoth 70 = .ok (.iload 6, 2) := by decide +kernel
theorem dX2_linkBoth_72 : decode cX2_linkBoth 72 = .ok (.sipush 200, 3) := by decide +kernel
theorem dX2_linkBoth_75 : decode cX2_linkBoth 75 = .ok (.if_icmp .le 10, 3) := by decide +kernel
theorem dX2_linkBoth_78 : decode cX2_linkBoth 78 = .ok (.bipush 7, 2) := by decide +kernel
theorem dX2_linkBoth_80 : decode cX2_linkBoth 80 = .ok (.iload_n 1, 1) := by decide +kernel
theorem dX2_linkBoth_81 : decode cX2_linkBoth 81 = .ok (.invokestatic 240, 3) := by decide +kernel
theorem dX2_linkBoth_84 : decode cX2_linkBoth 84 = .ok (.ireturn, 1) := by decide +kernel
theorem dX2_linkBoth_85 : decode cX2_linkBoth 85 = .ok (.aload_n 2, 1) := by decide +kernel
theorem dX2_linkBoth_86 : decode cX2_linkBoth 86 = .ok (.iload_n 1, 1) := by decide +kernel
theorem dX2_linkBoth_87 : decode cX2_linkBoth 87 = .ok (.invokevirtual 251, 3) := by decide +kernel
theorem dX2_linkBoth_90 : decode cX2_linkBoth 90 = .ok (.ifCond .ne 17, 3) := by decide +kernel
theorem dX2_linkBoth_93 : decode cX2_linkBoth 93 = .ok (.aload_n 3, 1) := by decide +kernel
theorem dX2_linkBoth_94 : decode cX2_linkBoth 94 = .ok (.iload_n 1, 1) := by decide +kernel
theorem dX2_linkBoth_95 : decode cX2_linkBoth 95 = .ok (.invokevirtual 251, 3) := by decide +kernel
theorem dX2_linkBoth_98 : decode cX2_linkBoth 98 = .ok (.ifCond .ne 9, 3) := by decide +kernel
theorem dX2_linkBoth_101 : decode cX2_linkBoth 101 = .ok (.iconst 4, 1) := by decide +kernel
theorem dX2_linkBoth_102 : decode cX2_linkBoth 102 = .ok (.iload_n 1, 1) := by decide +kernel
theorem dX2_linkBoth_103 : decode cX2_linkBoth 103 = .ok (.invokestatic 240, 3) := by decide +kernel
theorem dX2_linkBoth_106 : decode cX2_linkBoth 106 = .ok (.ireturn, 1) := by decide +kernel
theorem dX2_linkBoth_107 : decode cX2_linkBoth 107 = .ok (.aload_n 0, 1) := by decide +kernel
theorem dX2_linkBoth_108 : decode cX2_linkBoth 108 = .ok (.getfield 35, 3) := by decide +kernel
theorem dX2_linkBoth_111 : decode cX2_linkBoth 111 = .ok (.iload 5, 2) := by decide +kernel
theorem dX2_linkBoth_113 : decode cX2_linkBoth 113 = .ok (.aload_n 0, 1) := by decide +kernel
theorem dX2_linkBoth_114 : decode cX2_linkBoth 114 = .ok (.getfield 39, 3) := by decide +kernel
theorem dX2_linkBoth_117 : decode cX2_linkBoth 117 = .ok (.iload 6, 2) := by decide +kernel
theorem dX2_linkBoth_119 : decode cX2_linkBoth 119 = .ok (.invokestatic 233, 3) := by decide +kernel
theorem dX2_linkBoth_122 : decode cX2_linkBoth 122 = .ok (.ifCond .ne 9, 3) := by decide +kernel
theorem dX2_linkBoth_125 : decode cX2_linkBoth 125 = .ok (.iconst 2, 1) := by decide +kernel
theorem dX2_linkBoth_126 : decode cX2_linkBoth 126 = .ok (.iload_n 1, 1) := by decide +kernel
theorem dX2_linkBoth_127 : decode cX2_linkBoth 127 = .ok (.invokestatic 240, 3) := by decide +kernel
theorem dX2_linkBoth_130 : decode cX2_linkBoth 130 = .ok (.ireturn, 1) := by decide +kernel
theorem dX2_linkBoth_131 : decode cX2_linkBoth 131 = .ok (.aload_n 2, 1) := by decide +kernel
theorem dX2_linkBoth_132 : decode cX2_linkBoth 132 = .ok (.iload_n 1, 1) := by decide +kernel
theorem dX2_linkBoth_133 : decode cX2_linkBoth 133 = .ok (.invokevirtual 251, 3) := by decide +kernel
theorem dX2_linkBoth_136 : decode cX2_linkBoth 136 = .ok (.ifCond .eq 42, 3) := by decide +kernel
theorem dX2_linkBoth_139 : decode cX2_linkBoth 139 = .ok (.aload_n 3, 1) := by decide +kernel
theorem dX2_linkBoth_140 : decode cX2_linkBoth 140 = .ok (.iload_n 1, 1) := by decide +kernel
theorem dX2_linkBoth_141 : decode cX2_linkBoth 141 = .ok (.invokevirtual 251, 3) := by decide +kernel
theorem dX2_linkBoth_144 : decode cX2_linkBoth 144 = .ok (.ifCond .eq 34, 3) := by decide +kernel
theorem dX2_linkBoth_147 : decode cX2_linkBoth 147 = .ok (.aload 4, 2) := by decide +kernel
theorem dX2_linkBoth_149 : decode cX2_linkBoth 149 = .ok (.iload_n 1, 1) := by decide +kernel
theorem dX2_linkBoth_150 : decode cX2_linkBoth 150 = .ok (.iconst 1, 1) := by decide +kernel
theorem dX2_linkBoth_151 : decode cX2_linkBoth 151 = .ok (.aload_n 2, 1) := by decide +kernel
theorem dX2_linkBoth_152 : decode cX2_linkBoth 152 = .ok (.getfield 203, 3) := by decide +kernel
theorem dX2_linkBoth_155 : decode cX2_linkBoth 155 = .ok (.iload_n 1, 1) := by decide +kernel
theorem dX2_linkBoth_156 : decode cX2_linkBoth 156 = .ok (.iaload, 1) := by decide +kernel
theorem dX2_linkBoth_157 : decode cX2_linkBoth 157 = .ok (.aload_n 3, 1) := by decide +kernel
theorem dX2_linkBoth_158 : decode cX2_linkBoth 158 = .ok (.getfield 203, 3) := by decide +kernel
theorem dX2_linkBoth_161 : decode cX2_linkBoth 161 = .ok (.iload_n 1, 1) := by decide +kernel
theorem dX2_linkBoth_162 : decode cX2_linkBoth 162 = .ok (.iaload, 1) := by decide +kernel
theorem dX2_linkBoth_163 : decode cX2_linkBoth 163 = .ok (.iand, 1) := by decide +kernel
theorem dX2_linkBoth_164 : decode cX2_linkBoth 164 = .ok (.iconst 4, 1) := by decide +kernel
theorem dX2_linkBoth_165 : decode cX2_linkBoth 165 = .ok (.iand, 1) := by decide +kernel
theorem dX2_linkBoth_166 : decode cX2_linkBoth 166 = .ok (.ior, 1) := by decide +kernel
theorem dX2_linkBoth_167 : decode cX2_linkBoth 167 = .ok (.aload_n 0, 1) := by decide +kernel
theorem dX2_linkBoth_168 : decode cX2_linkBoth 168 = .ok (.getfield 35, 3) := by decide +kernel
theorem dX2_linkBoth_171 : decode cX2_linkBoth 171 = .ok (.iload 5, 2) := by decide +kernel
theorem dX2_linkBoth_173 : decode cX2_linkBoth 173 = .ok (.invokevirtual 243, 3) := by decide +kernel
theorem dX2_linkBoth_176 : decode cX2_linkBoth 176 = .ok (.iconst 0, 1) := by decide +kernel
theorem dX2_linkBoth_177 : decode cX2_linkBoth 177 = .ok (.ireturn, 1) := by decide +kernel
theorem dX2_linkBoth_178 : decode cX2_linkBoth 178 = .ok (.aload_n 2, 1) := by decide +kernel
theorem dX2_linkBoth_179 : decode cX2_linkBoth 179 = .ok (.iload_n 1, 1) := by decide +kernel
theorem dX2_linkBoth_180 : decode cX2_linkBoth 180 = .ok (.invokevirtual 251, 3) := by decide +kernel
theorem dX2_linkBoth_183 : decode cX2_linkBoth 183 = .ok (.ifCond .eq 7, 3) := by decide +kernel
theorem dX2_linkBoth_186 : decode cX2_linkBoth 186 = .ok (.aload_n 3, 1) := by decide +kernel
theorem dX2_linkBoth_187 : decode cX2_linkBoth 187 = .ok (.goto 4, 3) := by decide +kernel
theorem dX2_linkBoth_190 : decode cX2_linkBoth 190 = .ok (.aload_n 2, 1) := by decide +kernel
theorem dX2_linkBoth_191 : decode cX2_linkBoth 191 = .ok (.astore 7, 2) := by decide +kernel
theorem dX2_linkBoth_193 : decode cX2_linkBoth 193 = .ok (.aload_n 2, 1) := by decide +kernel
theorem dX2_linkBoth_194 : decode cX2_linkBoth 194 = .ok (.iload_n 1, 1) := by decide +kernel
theorem dX2_linkBoth_195 : decode cX2_linkBoth 195 = .ok (.invokevirtual 251, 3) := by decide +kernel
theorem dX2_linkBoth_198 : decode cX2_linkBoth 198 = .ok (.ifCond .eq 7, 3) := by decide +kernel
theorem dX2_linkBoth_201 : decode cX2_linkBoth 201 = .ok (.aload_n 2, 1) := by decide +kernel
theorem dX2_linkBoth_202 : decode cX2_linkBoth 202 = .ok (.goto 4, 3) := by decide +kernel
theorem dX2_linkBoth_205 : decode cX2_linkBoth 205 = .ok (.aload_n 3, 1) := by decide +kernel
theorem dX2_linkBoth_206 : decode cX2_linkBoth 206 = .ok (.astore 8, 2) := by decide +kernel
theorem dX2_linkBoth_208 : decode cX2_linkBoth 208 = .ok (.aload 7, 2) := by decide +kernel
theorem dX2_linkBoth_210 : decode cX2_linkBoth 210 = .ok (.iload_n 1, 1) := by decide +kernel
theorem dX2_linkBoth_211 : decode cX2_linkBoth 211 = .ok (.invokevirtual 254, 3) := by decide +kernel
theorem dX2_linkBoth_214 : decode cX2_linkBoth 214 = .ok (.ifCond .eq 19, 3) := by decide +kernel
theorem dX2_linkBoth_217 : decode cX2_linkBoth 217 = .ok (.aload 8, 2) := by decide +kernel
theorem dX2_linkBoth_219 : decode cX2_linkBoth 219 = .ok (.iload_n 1, 1) := by decide +kernel
theorem dX2_linkBoth_220 : decode cX2_linkBoth 220 = .ok (.invokevirtual 254, 3) := by decide +kernel
theorem dX2_linkBoth_223 : decode cX2_linkBoth 223 = .ok (.ifCond .ne 10, 3) := by decide +kernel
theorem dX2_linkBoth_226 : decode cX2_linkBoth 226 = .ok (.bipush 6, 2) := by decide +kernel
theorem dX2_linkBoth_228 : decode cX2_linkBoth 228 = .ok (.iload_n 1, 1) := by decide +kernel
theorem dX2_linkBoth_229 : decode cX2_linkBoth 229 = .ok (.invokestatic 240, 3) := by decide +kernel
theorem dX2_linkBoth_232 : decode cX2_linkBoth 232 = .ok (.ireturn, 1) := by decide +kernel
theorem dX2_linkBoth_233 : decode cX2_linkBoth 233 = .ok (.aload 4, 2) := by decide +kernel
theorem dX2_linkBoth_235 : decode cX2_linkBoth 235 = .ok (.iload_n 1, 1) := by decide +kernel
theorem dX2_linkBoth_236 : decode cX2_linkBoth 236 = .ok (.aload 7, 2) := by decide +kernel
theorem dX2_linkBoth_238 : decode cX2_linkBoth 238 = .ok (.getfield 203, 3) := by decide +kernel
theorem dX2_linkBoth_241 : decode cX2_linkBoth 241 = .ok (.iload_n 1, 1) := by decide +kernel
theorem dX2_linkBoth_242 : decode cX2_linkBoth 242 = .ok (.iaload, 1) := by decide +kernel
theorem dX2_linkBoth_243 : decode cX2_linkBoth 243 = .ok (.aload_n 0, 1) := by decide +kernel
theorem dX2_linkBoth_244 : decode cX2_linkBoth 244 = .ok (.getfield 35, 3) := by decide +kernel
theorem dX2_linkBoth_247 : decode cX2_linkBoth 247 = .ok (.iload 5, 2) := by decide +kernel
theorem dX2_linkBoth_249 : decode cX2_linkBoth 249 = .ok (.invokevirtual 243, 3) := by decide +kernel
theorem dX2_linkBoth_252 : decode cX2_linkBoth 252 = .ok (.aload 4, 2) := by decide +kernel
theorem dX2_linkBoth_254 : decode cX2_linkBoth 254 = .ok (.iload_n 1, 1) := by decide +kernel
theorem dX2_linkBoth_255 : decode cX2_linkBoth 255 = .ok (.aload 7, 2) := by decide +kernel
theorem dX2_linkBoth_257 : decode cX2_linkBoth 257 = .ok (.iload_n 1, 1) := by decide +kernel
theorem dX2_linkBoth_258 : decode cX2_linkBoth 258 = .ok (.invokevirtual 247, 3) := by decide +kernel
theorem dX2_linkBoth_261 : decode cX2_linkBoth 261 = .ok (.iconst 0, 1) := by decide +kernel
theorem dX2_linkBoth_262 : decode cX2_linkBoth 262 = .ok (.ireturn, 1) := by decide +kernel
theorem dX2_seal_0 : decode cX2_seal 0 = .ok (.aload_n 0, 1) := by decide +kernel
theorem dX2_seal_1 : decode cX2_seal 1 = .ok (.getfield 21, 3) := by decide +kernel
theorem dX2_seal_4 : decode cX2_seal 4 = .ok (.invokevirtual 177, 3) := by decide +kernel
theorem dX2_seal_7 : decode cX2_seal 7 = .ok (.aload_n 0, 1) := by decide +kernel
theorem dX2_seal_8 : decode cX2_seal 8 = .ok (.getfield 25, 3) := by decide +kernel
theorem dX2_seal_11 : decode cX2_seal 11 = .ok (.invokevirtual 177, 3) := by decide +kernel
theorem dX2_seal_14 : decode cX2_seal 14 = .ok (.iconst 0, 1) := by decide +kernel
theorem dX2_seal_15 : decode cX2_seal 15 = .ok (.istore 5, 2) := by decide +kernel
theorem dX2_seal_17 : decode cX2_seal 17 = .ok (.iload 5, 2) := by decide +kernel
theorem dX2_seal_19 : decode cX2_seal 19 = .ok (.bipush 6, 2) := by decide +kernel
theorem dX2_seal_21 : decode cX2_seal 21 = .ok (.if_icmp .ge 70, 3) := by decide +kernel
theorem dX2_seal_24 : decode cX2_seal 24 = .ok (.aload_n 3, 1) := by decide +kernel
theorem dX2_seal_25 : decode cX2_seal 25 = .ok (.getfield 178, 3) := by decide +kernel
theorem dX2_seal_28 : decode cX2_seal 28 = .ok (.iload 5, 2) := by decide +kernel
theorem dX2_seal_30 : decode cX2_seal 30 = .ok (.iaload, 1) := by decide +kernel
theorem dX2_seal_31 : decode cX2_seal 31 = .ok (.iconst 1, 1) := by decide +kernel
theorem dX2_seal_32 : decode cX2_seal 32 = .ok (.if_icmp .ne 53, 3) := by decide +kernel
theorem dX2_seal_35 : decode cX2_seal 35 = .ok (.aload_n 2, 1) := by decide +kernel
theorem dX2_seal_36 : decode cX2_seal 36 = .ok (.getfield 178, 3) := by decide +kernel
theorem dX2_seal_39 : decode cX2_seal 39 = .ok (.iload 5, 2) := by decide +kernel
theorem dX2_seal_41 : decode cX2_seal 41 = .ok (.iaload, 1) := by decide +kernel
theorem dX2_seal_42 : decode cX2_seal 42 = .ok (.iconst 2, 1) := by decide +kernel
theorem dX2_seal_43 : decode cX2_seal 43 = .ok (.if_icmp .ne 42, 3) := by decide +kernel
theorem dX2_seal_46 : decode cX2_seal 46 = .ok (.aload_n 0, 1) := by decide +kernel
theorem dX2_seal_47 : decode cX2_seal 47 = .ok (.getfield 21, 3) := by decide +kernel
theorem dX2_seal_50 : decode cX2_seal 50 = .ok (.iload 5, 2) := by decide +kernel
theorem dX2_seal_52 : decode cX2_seal 52 = .ok (.aload_n 2, 1) := by decide +kernel
theorem dX2_seal_53 : decode cX2_seal 53 = .ok (.getfield 181, 3) := by decide +kernel
theorem dX2_seal_56 : decode cX2_seal 56 = .ok (.iload 5, 2) := by decide +kernel
theorem dX2_seal_58 : decode cX2_seal 58 = .ok (.aaload, 1) := by decide +kernel
theorem dX2_seal_59 : decode cX2_seal 59 = .ok (.aload_n 2, 1) := by decide +kernel
theorem dX2_seal_60 : decode cX2_seal 60 = .ok (.getfield 185, 3) := by decide +kernel
theorem dX2_seal_63 : decode cX2_seal 63 = .ok (.iload 5, 2) := by decide +kernel
theorem dX2_seal_65 : decode cX2_seal 65 = .ok (.iaload, 1) := by decide +kernel
theorem dX2_seal_66 : decode cX2_seal 66 = .ok (.invokevirtual 257, 3) := by decide +kernel
theorem dX2_seal_69 : decode cX2_seal 69 = .ok (.aload_n 0, 1) := by decide +kernel
theorem dX2_seal_70 : decode cX2_seal 70 = .ok (.getfield 25, 3) := by decide +kernel
theorem dX2_seal_73 : decode cX2_seal 73 = .ok (.iload 5, 2) := by decide +kernel
theorem dX2_seal_75 : decode cX2_seal 75 = .ok (.aload_n 0, 1) := by decide +kernel
theorem dX2_seal_76 : decode cX2_seal 76 = .ok (.aload_n 1, 1) := by decide +kernel
theorem dX2_seal_77 : decode cX2_seal 77 = .ok (.iload 5, 2) := by decide +kernel
theorem dX2_seal_79 : decode cX2_seal 79 = .ok (.invokevirtual 260, 3) := by decide +kernel
theorem dX2_seal_82 : decode cX2_seal 82 = .ok (.invokevirtual 264, 3) := by decide +kernel
theorem dX2_seal_85 : decode cX2_seal 85 = .ok (.iinc 5 1, 3) := by decide +kernel
theorem dX2_seal_88 : decode cX2_seal 88 = .ok (.goto (-71), 3) := by decide +kernel
theorem dX2_seal_91 : decode cX2_seal 91 = .ok (.iconst 0, 1) := by decide +kernel
theorem dX2_seal_92 : decode cX2_seal 92 = .ok (.istore 5, 2) := by decide +kernel
theorem dX2_seal_94 : decode cX2_seal 94 = .ok (.iconst 0, 1) := by decide +kernel
theorem dX2_seal_95 : decode cX2_seal 95 = .ok (.istore 6, 2) := by decide +kernel
theorem dX2_seal_97 : decode cX2_seal 97 = .ok (.iload 6, 2) := by decide +kernel
theorem dX2_seal_99 : decode cX2_seal 99 = .ok (.bipush 6, 2) := by decide +kernel
theorem dX2_seal_101 : decode cX2_seal 101 = .ok (.if_icmp .ge 35, 3) := by decide +kernel
theorem dX2_seal_104 : decode cX2_seal 104 = .ok (.iload 5, 2) := by decide +kernel
theorem dX2_seal_106 : decode cX2_seal 106 = .ok (.ifCond .ne 30, 3) := by decide +kernel
theorem dX2_seal_109 : decode cX2_seal 109 = .ok (.aload_n 3, 1) := by decide +kernel
theorem dX2_seal_110 : decode cX2_seal 110 = .ok (.iload 6, 2) := by decide +kernel
theorem dX2_seal_112 : decode cX2_seal 112 = .ok (.invokevirtual 222, 3) := by decide +kernel
theorem dX2_seal_115 : decode cX2_seal 115 = .ok (.ifCond .eq 15, 3) := by decide +kernel
theorem dX2_seal_118 : decode cX2_seal 118 = .ok (.aload_n 0, 1) := by decide +kernel
theorem dX2_seal_119 : decode cX2_seal 119 = .ok (.iload 6, 2) := by decide +kernel
theorem dX2_seal_121 : decode cX2_seal 121 = .ok (.aload_n 2, 1) := by decide +kernel
theorem dX2_seal_122 : decode cX2_seal 122 = .ok (.aload_n 3, 1) := by decide +kernel
theorem dX2_seal_123 : decode cX2_seal 123 = .ok (.aload 4, 2) := by decide +kernel
theorem dX2_seal_125 : decode cX2_seal 125 = .ok (.invokevirtual 268, 3) := by decide +kernel
theorem dX2_seal_128 : decode cX2_seal 128 = .ok (.istore 5, 2) := by decide +kernel
theorem dX2_seal_130 : decode cX2_seal 130 = .ok (.iinc 6 1, 3) := by decide +kernel
theorem dX2_seal_133 : decode cX2_seal 133 = .ok (.goto (-36), 3) := by decide +kernel
theorem dX2_seal_136 : decode cX2_seal 136 = .ok (.iconst 0, 1) := by decide +kernel
theorem dX2_seal_137 : decode cX2_seal 137 = .ok (.istore 6, 2) := by decide +kernel
theorem dX2_seal_139 : decode cX2_seal 139 = .ok (.iload 6, 2) := by decide +kernel
theorem dX2_seal_141 : decode cX2_seal 141 = .ok (.bipush 10, 2) := by decide +kernel
theorem dX2_seal_143 : decode cX2_seal 143 = .ok (.if_icmp .ge 35, 3) := by decide +kernel
theorem dX2_seal_146 : decode cX2_seal 146 = .ok (.iload 5, 2) := by decide +kernel
theorem dX2_seal_148 : decode cX2_seal 148 = .ok (.ifCond .ne 30, 3) := by decide +kernel
theorem dX2_seal_151 : decode cX2_seal 151 = .ok (.aload_n 3, 1) := by decide +kernel
theorem dX2_seal_152 : decode cX2_seal 152 = .ok (.iload 6, 2) := by decide +kernel
theorem dX2_seal_154 : decode cX2_seal 154 = .ok (.invokevirtual 206, 3) := by decide +kernel
theorem dX2_seal_157 : decode cX2_seal 157 = .ok (.ifCond .eq 15, 3) := by decide +kernel
theorem dX2_seal_160 : decode cX2_seal 160 = .ok (.aload_n 0, 1) := by decide +kernel
theorem dX2_seal_161 : decode cX2_seal 161 = .ok (.iload 6, 2) := by decide +kernel
theorem dX2_seal_163 : decode cX2_seal 163 = .ok (.aload_n 2, 1) := by decide +kernel
theorem dX2_seal_164 : decode cX2_seal 164 = .ok (.aload_n 3, 1) := by decide +kernel
theorem dX2_seal_165 : decode cX2_seal 165 = .ok (.aload 4, 2) := by decide +kernel
theorem dX2_seal_167 : decode cX2_seal 167 = .ok (.invokevirtual 271, 3) := by decide +kernel
theorem dX2_seal_170 : decode cX2_seal 170 = .ok (.istore 5, 2) := by decide +kernel
theorem dX2_seal_172 : decode cX2_seal 172 = .ok (.iinc 6 1, 3) := by decide +kernel
theorem dX2_seal_175 : decode cX2_seal 175 = .ok (.goto (-36), 3) := by decide +kernel
theorem dX2_seal_178 : decode cX2_seal 178 = .ok (.iload 5, 2) := by decide +kernel
theorem dX2_seal_180 : decode cX2_seal 180 = .ok (.ireturn, 1) := by decide +kernel
theorem dX2_sealType_0 : decode cX2_sealType 0 = .ok (.aload_n 2, 1) := by decide +kernel
theorem dX2_sealType_1 : decode cX2_sealType 1 = .ok (.iload_n 1, 1) := by decide +kernel
theorem dX2_sealType_2 : decode cX2_sealType 2 = .ok (.invokevirtual 222, 3) := by decide +kernel
theorem dX2_sealType_5 : decode cX2_sealType 5 = .ok (.ifCond .ne 9, 3) := by decide +kernel
theorem dX2_sealType_8 : decode cX2_sealType 8 = .ok (.iconst 5, 1) := by decide +kernel
theorem dX2_sealType_9 : decode cX2_sealType 9 = .ok (.iload_n 1, 1) := by decide +kernel
theorem dX2_sealType_10 : decode cX2_sealType 10 = .ok (.invokestatic 237, 3) := by decide +kernel
theorem dX2_sealType_13 : decode cX2_sealType 13 = .ok (.ireturn, 1) := by decide +kernel
theorem dX2_sealType_14 : decode cX2_sealType 14 = .ok (.aload_n 3, 1) := by decide +kernel
theorem dX2_sealType_15 : decode cX2_sealType 15 = .ok (.getfield 178, 3) := by decide +kernel
theorem dX2_sealType_18 : decode cX2_sealType 18 = .ok (.iload_n 1, 1) := by decide +kernel
theorem dX2_sealType_19 : decode cX2_sealType 19 = .ok (.iaload, 1) := by decide +kernel
theorem dX2_sealType_20 : decode cX2_sealType 20 = .ok (.iconst 1, 1) := by decide +kernel
theorem dX2_sealType_21 : decode cX2_sealType 21 = .ok (.if_icmp .ne 41, 3) := by decide +kernel
theorem dX2_sealType_24 : decode cX2_sealType 24 = .ok (.aload_n 2, 1) := by decide +kernel
theorem dX2_sealType_25 : decode cX2_sealType 25 = .ok (.getfield 178, 3) := by decide +kernel
theorem dX2_sealType_28 : decode cX2_sealType 28 = .ok (.iload_n 1, 1) := by decide +kernel
theorem dX2_sealType_29 : decode cX2_sealType 29 = .ok (.iaload, 1) := by decide +kernel
theorem dX2_sealType_30 : decode cX2_sealType 30 = .ok (.iconst 2, 1) := by decide +kernel
theorem dX2_sealType_31 : decode cX2_sealType 31 = .ok (.if_icmp .ne 23, 3) := by decide +kernel
theorem dX2_sealType_34 : decode cX2_sealType 34 = .ok (.aload 4, 2) := by decide +kernel
theorem dX2_sealType_36 : decode cX2_sealType 36 = .ok (.iload_n 1, 1) := by decide +kernel
theorem dX2_sealType_37 : decode cX2_sealType 37 = .ok (.aload_n 0, 1) := by decide +kernel
theorem dX2_sealType_38 : decode cX2_sealType 38 = .ok (.getfield 25, 3) := by decide +kernel
theorem dX2_sealType_41 : decode cX2_sealType 41 = .ok (.getfield 218, 3) := by decide +kernel
theorem dX2_sealType_44 : decode cX2_sealType 44 = .ok (.iload_n 1, 1) := by decide +kernel
theorem dX2_sealType_45 : decode cX2_sealType 45 = .ok (.aaload, 1) := by decide +kernel
theorem dX2_sealType_46 : decode cX2_sealType 46 = .ok (.iconst 0, 1) := by decide +kernel
theorem dX2_sealType_47 : decode cX2_sealType 47 = .ok (.iaload, 1) := by decide +kernel
theorem dX2_sealType_48 : decode cX2_sealType 48 = .ok (.invokevirtual 274, 3) := by decide +kernel
theorem dX2_sealType_51 : decode cX2_sealType 51 = .ok (.goto 9, 3) := by decide +kernel
theorem dX2_sealType_54 : decode cX2_sealType 54 = .ok (.aload 4, 2) := by decide +kernel
theorem dX2_sealType_56 : decode cX2_sealType 56 = .ok (.iload_n 1, 1) := by decide +kernel
theorem dX2_sealType_57 : decode cX2_sealType 57 = .ok (.invokevirtual 225, 3) := by decide +kernel
theorem dX2_sealType_60 : decode cX2_sealType 60 = .ok (.iconst 0, 1) := by decide +kernel
theorem dX2_sealType_61 : decode cX2_sealType 61 = .ok (.ireturn, 1) := by decide +kernel
theorem dX2_sealType_62 : decode cX2_sealType 62 = .ok (.aload_n 2, 1) := by decide +kernel
theorem dX2_sealType_63 : decode cX2_sealType 63 = .ok (.getfield 178, 3) := by decide +kernel
theorem dX2_sealType_66 : decode cX2_sealType 66 = .ok (.iload_n 1, 1) := by decide +kernel
theorem dX2_sealType_67 : decode cX2_sealType 67 = .ok (.iaload, 1) := by decide +kernel
theorem dX2_sealType_68 : decode cX2_sealType 68 = .ok (.iconst 1, 1) := by decide +kernel
theorem dX2_sealType_69 : decode cX2_sealType 69 = .ok (.if_icmp .ne 9, 3) := by decide +kernel
theorem dX2_sealType_72 : decode cX2_sealType 72 = .ok (.iconst 2, 1) := by decide +kernel
theorem dX2_sealType_73 : decode cX2_sealType 73 = .ok (.iload_n 1, 1) := by decide +kernel
theorem dX2_sealType_74 : decode cX2_sealType 74 = .ok (.invokestatic 237, 3) := by decide +kernel
theorem dX2_sealType_77 : decode cX2_sealType 77 = .ok (.ireturn, 1) := by decide +kernel
theorem dX2_sealType_78 : decode cX2_sealType 78 = .ok (.aload_n 0, 1) := by decide +kernel
theorem dX2_sealType_79 : decode cX2_sealType 79 = .ok (.getfield 21, 3) := by decide +kernel
theorem dX2_sealType_82 : decode cX2_sealType 82 = .ok (.aload_n 3, 1) := by decide +kernel
theorem dX2_sealType_83 : decode cX2_sealType 83 = .ok (.getfield 181, 3) := by decide +kernel
theorem dX2_sealType_86 : decode cX2_sealType 86 = .ok (.iload_n 1, 1) := by decide +kernel
theorem dX2_sealType_87 : decode cX2_sealType 87 = .ok (.aaload, 1) := by decide +kernel
theorem dX2_sealType_88 : decode cX2_sealType 88 = .ok (.aload_n 3, 1) := by decide +kernel
theorem dX2_sealType_89 : decode cX2_sealType 89 = .ok (.getfield 185, 3) := by decide +kernel
theorem dX2_sealType_92 : decode cX2_sealType 92 = .ok (.iload_n 1, 1) := by decide +kernel
theorem dX2_sealType_93 : decode cX2_sealType 93 = .ok (.iaload, 1) := by decide +kernel
theorem dX2_sealType_94 : decode cX2_sealType 94 = .ok (.aload_n 0, 1) := by decide +kernel
theorem dX2_sealType_95 : decode cX2_sealType 95 = .ok (.getfield 35, 3) := by decide +kernel
theorem dX2_sealType_98 : decode cX2_sealType 98 = .ok (.invokevirtual 229, 3) := by decide +kernel
theorem dX2_sealType_101 : decode cX2_sealType 101 = .ok (.istore 5, 2) := by decide +kernel
theorem dX2_sealType_103 : decode cX2_sealType 103 = .ok (.iload 5, 2) := by decide +kernel
theorem dX2_sealType_105 : decode cX2_sealType 105 = .ok (.sipush 200, 3) := by decide +kernel
theorem dX2_sealType_108 : decode cX2_sealType 108 = .ok (.if_icmp .le 10, 3) := by decide +kernel
theorem dX2_sealType_111 : decode cX2_sealType 111 = .ok (.bipush 7, 2) := by decide +kernel
theorem dX2_sealType_113 : decode cX2_sealType 113 = .ok (.iload_n 1, 1) := by decide +kernel
theorem dX2_sealType_114 : decode cX2_sealType 114 = .ok (.invokestatic 237, 3) := by decide +kernel
theorem dX2_sealType_117 : decode cX2_sealType 117 = .ok (.ireturn, 1) := by decide +kernel
theorem dX2_sealType_118 : decode cX2_sealType 118 = .ok (.aload_n 0, 1) := by decide +kernel
theorem dX2_sealType_119 : decode cX2_sealType 119 = .ok (.getfield 35, 3) := by decide +kernel
theorem dX2_sealType_122 : decode cX2_sealType 122 = .ok (.iload 5, 2) := by decide +kernel
theorem dX2_sealType_124 : decode cX2_sealType 124 = .ok (.aload_n 2, 1) := by decide +kernel
theorem dX2_sealType_125 : decode cX2_sealType 125 = .ok (.getfield 181, 3) := by decide +kernel
theorem dX2_sealType_128 : decode cX2_sealType 128 = .ok (.iload_n 1, 1) := by decide +kernel
theorem dX2_sealType_129 : decode cX2_sealType 129 = .ok (.aaload, 1) := by decide +kernel
theorem dX2_sealType_130 : decode cX2_sealType 130 = .ok (.aload_n 2, 1) := by decide +kernel
theorem dX2_sealType_131 : decode cX2_sealType 131 = .ok (.getfield 185, 3) := by decide +kernel
theorem dX2_sealType_134 : decode cX2_sealType 134 = .ok (.iload_n 1, 1) := by decide +kernel
theorem dX2_sealType_135 : decode cX2_sealType 135 = .ok (.iaload, 1) := by decide +kernel
theorem dX2_sealType_136 : decode cX2_sealType 136 = .ok (.invokestatic 233, 3) := by decide +kernel
theorem dX2_sealType_139 : decode cX2_sealType 139 = .ok (.ifCond .ne 9, 3) := by decide +kernel
theorem dX2_sealType_142 : decode cX2_sealType 142 = .ok (.iconst 2, 1) := by decide +kernel
theorem dX2_sealType_143 : decode cX2_sealType 143 = .ok (.iload_n 1, 1) := by decide +kernel
theorem dX2_sealType_144 : decode cX2_sealType 144 = .ok (.invokestatic 237, 3) := by decide +kernel
theorem dX2_sealType_147 : decode cX2_sealType 147 = .ok (.ireturn, 1) := by decide +kernel
theorem dX2_sealType_148 : decode cX2_sealType 148 = .ok (.aload_n 0, 1) := by decide +kernel
theorem dX2_sealType_149 : decode cX2_sealType 149 = .ok (.getfield 25, 3) := by decide +kernel
theorem dX2_sealType_152 : decode cX2_sealType 152 = .ok (.aload_n 3, 1) := by decide +kernel
theorem dX2_sealType_153 : decode cX2_sealType 153 = .ok (.getfield 181, 3) := by decide +kernel
theorem dX2_sealType_156 : decode cX2_sealType 156 = .ok (.iload_n 1, 1) := by decide +kernel
theorem dX2_sealType_157 : decode cX2_sealType 157 = .ok (.aaload, 1) := by decide +kernel
theorem dX2_sealType_158 : decode cX2_sealType 158 = .ok (.aload_n 3, 1) := by decide +kernel
theorem dX2_sealType_159 : decode cX2_sealType 159 = .ok (.getfield 185, 3) := by decide +kernel
theorem dX2_sealType_162 : decode cX2_sealType 162 = .ok (.iload_n 1, 1) := by decide +kernel
theorem dX2_sealType_163 : decode cX2_sealType 163 = .ok (.iaload, 1) := by decide +kernel
theorem dX2_sealType_164 : decode cX2_sealType 164 = .ok (.aload_n 0, 1) := by decide +kernel
theorem dX2_sealType_165 : decode cX2_sealType 165 = .ok (.getfield 35, 3) := by decide +kernel
theorem dX2_sealType_168 : decode cX2_sealType 168 = .ok (.invokevirtual 229, 3) := by decide +kernel
theorem dX2_sealType_171 : decode cX2_sealType 171 = .ok (.istore 5, 2) := by decide +kernel
theorem dX2_sealType_173 : decode cX2_sealType 173 = .ok (.aload 4, 2) := by decide +kernel
theorem dX2_sealType_175 : decode cX2_sealType 175 = .ok (.iload_n 1, 1) := by decide +kernel
theorem dX2_sealType_176 : decode cX2_sealType 176 = .ok (.aload_n 0, 1) := by decide +kernel
theorem dX2_sealType_177 : decode cX2_sealType 177 = .ok (.getfield 35, 3) := by decide +kernel
theorem dX2_sealType_180 : decode cX2_sealType 180 = .ok (.iload 5, 2) := by decide +kernel
theorem dX2_sealType_182 : decode cX2_sealType 182 = .ok (.invokevirtual 219, 3) := by decide +kernel
theorem dX2_sealType_185 : decode cX2_sealType 185 = .ok (.iconst 0, 1) := by decide +kernel
theorem dX2_sealType_186 : decode cX2_sealType 186 = .ok (.ireturn, 1) := by decide +kernel
theorem dX2_sealValue_0 : decode cX2_sealValue 0 = .ok (.aload_n 2, 1) := by decide +kernel
theorem dX2_sealValue_1 : decode cX2_sealValue 1 = .ok (.iload_n 1, 1) := by decide +kernel
theorem dX2_sealValue_2 : decode cX2_sealValue 2 = .ok (.invokevirtual 206, 3) := by decide +kernel
theorem dX2_sealValue_5 : decode cX2_sealValue 5 = .ok (.ifCond .ne 9, 3) := by decide +kernel
theorem dX2_sealValue_8 : decode cX2_sealValue 8 = .ok (.iconst 5, 1) := by decide +kernel
theorem dX2_sealValue_9 : decode cX2_sealValue 9 = .ok (.iload_n 1, 1) := by decide +kernel
theorem dX2_sealValue_10 : decode cX2_sealValue 10 = .ok (.invokestatic 240, 3) := by decide +kernel
theorem dX2_sealValue_13 : decode cX2_sealValue 13 = .ok (.ireturn, 1) := by decide +kernel
theorem dX2_sealValue_14 : decode cX2_sealValue 14 = .ok (.aload_n 0, 1) := by decide +kernel
theorem dX2_sealValue_15 : decode cX2_sealValue 15 = .ok (.getfield 21, 3) := by decide +kernel
theorem dX2_sealValue_18 : decode cX2_sealValue 18 = .ok (.aload_n 3, 1) := by decide +kernel
theorem dX2_sealValue_19 : decode cX2_sealValue 19 = .ok (.getfield 181, 3) := by decide +kernel
theorem dX2_sealValue_22 : decode cX2_sealValue 22 = .ok (.bipush 6, 2) := by decide +kernel
theorem dX2_sealValue_24 : decode cX2_sealValue 24 = .ok (.iload_n 1, 1) := by decide +kernel
theorem dX2_sealValue_25 : decode cX2_sealValue 25 = .ok (.iadd, 1) := by decide +kernel
theorem dX2_sealValue_26 : decode cX2_sealValue 26 = .ok (.aaload, 1) := by decide +kernel
theorem dX2_sealValue_27 : decode cX2_sealValue 27 = .ok (.aload_n 3, 1) := by decide +kernel
theorem dX2_sealValue_28 : decode cX2_sealValue 28 = .ok (.getfield 185, 3) := by decide +kernel
theorem dX2_sealValue_31 : decode cX2_sealValue 31 = .ok (.bipush 6, 2) := by decide +kernel
theorem dX2_sealValue_33 : decode cX2_sealValue 33 = .ok (.iload_n 1, 1) := by decide +kernel
theorem dX2_sealValue_34 : decode cX2_sealValue 34 = .ok (.iadd, 1) := by decide +kernel
theorem dX2_sealValue_35 : decode cX2_sealValue 35 = .ok (.iaload, 1) := by decide +kernel
theorem dX2_sealValue_36 : decode cX2_sealValue 36 = .ok (.aload_n 0, 1) := by decide +kernel
theorem dX2_sealValue_37 : decode cX2_sealValue 37 = .ok (.getfield 35, 3) := by decide +kernel
theorem dX2_sealValue_40 : decode cX2_sealValue 40 = .ok (.invokevirtual 229, 3) := by decide +kernel
theorem dX2_sealValue_43 : decode cX2_sealValue 43 = .ok (.istore 5, 2) := by decide +kernel
theorem dX2_sealValue_45 : decode cX2_sealValue 45 = .ok (.iload 5, 2) := by decide +kernel
theorem dX2_sealValue_47 : decode cX2_sealValue 47 = .ok (.sipush 200, 3) := by decide +kernel
theorem dX2_sealValue_50 : decode cX2_sealValue 50 = .ok (.if_icmp .le 10, 3) := by decide +kernel
theorem dX2_sealValue_53 : decode cX2_sealValue 53 = .ok (.bipush 7, 2) := by decide +kernel
theorem dX2_sealValue_55 : decode cX2_sealValue 55 = .ok (.iload_n 1, 1) := by decide +kernel
theorem dX2_sealValue_56 : decode cX2_sealValue 56 = .ok (.invokestatic 240, 3) := by decide +kernel
theorem dX2_sealValue_59 : decode cX2_sealValue 59 = .ok (.ireturn, 1) := by decide +kernel
theorem dX2_sealValue_60 : decode cX2_sealValue 60 = .ok (.aload_n 0, 1) := by decide +kernel
theorem dX2_sealValue_61 : decode cX2_sealValue 61 = .ok (.getfield 35, 3) := by decide +kernel
theorem dX2_sealValue_64 : decode cX2_sealValue 64 = .ok (.iload 5, 2) := by decide +kernel
theorem dX2_sealValue_66 : decode cX2_sealValue 66 = .ok (.aload_n 2, 1) := by decide +kernel
theorem dX2_sealValue_67 : decode cX2_sealValue 67 = .ok (.getfield 181, 3) := by decide +kernel
theorem dX2_sealValue_70 : decode cX2_sealValue 70 = .ok (.bipush 6, 2) := by decide +kernel
theorem dX2_sealValue_72 : decode cX2_sealValue 72 = .ok (.iload_n 1, 1) := by decide +kernel
theorem dX2_sealValue_73 : decode cX2_sealValue 73 = .ok (.iadd, 1) := by decide +kernel
theorem dX2_sealValue_74 : decode cX2_sealValue 74 = .ok (.aaload, 1) := by decide +kernel
theorem dX2_sealValue_75 : decode cX2_sealValue 75 = .ok (.aload_n 2, 1) := by decide +kernel
theorem dX2_sealValue_76 : decode cX2_sealValue 76 = .ok (.getfield 185, 3) := by decide +kernel
theorem dX2_sealValue_79 : decode cX2_sealValue 79 = .ok (.bipush 6, 2) := by decide +kernel
theorem dX2_sealValue_81 : decode cX2_sealValue 81 = .ok (.iload_n 1, 1) := by decide +kernel
theorem dX2_sealValue_82 : decode cX2_sealValue 82 = .ok (.iadd, 1) := by decide +kernel
theorem dX2_sealValue_83 : decode cX2_sealValue 83 = .ok (.iaload, 1) := by decide +kernel
theorem dX2_sealValue_84 : decode cX2_sealValue 84 = .ok (.invokestatic 233, 3) := by decide +kernel
theorem dX2_sealValue_87 : decode cX2_sealValue 87 = .ok (.ifCond .ne 9, 3) := by decide +kernel
theorem dX2_sealValue_90 : decode cX2_sealValue 90 = .ok (.iconst 2, 1) := by decide +kernel
theorem dX2_sealValue_91 : decode cX2_sealValue 91 = .ok (.iload_n 1, 1) := by decide +kernel
theorem dX2_sealValue_92 : decode cX2_sealValue 92 = .ok (.invokestatic 240, 3) := by decide +kernel
theorem dX2_sealValue_95 : decode cX2_sealValue 95 = .ok (.ireturn, 1) := by decide +kernel
theorem dX2_sealValue_96 : decode cX2_sealValue 96 = .ok (.aload_n 2, 1) := by decide +kernel
theorem dX2_sealValue_97 : decode cX2_sealValue 97 = .ok (.iload_n 1, 1) := by decide +kernel
theorem dX2_sealValue_98 : decode cX2_sealValue 98 = .ok (.invokevirtual 254, 3) := by decide +kernel
theorem dX2_sealValue_101 : decode cX2_sealValue 101 = .ok (.ifCond .eq 18, 3) := by decide +kernel
theorem dX2_sealValue_104 : decode cX2_sealValue 104 = .ok (.aload_n 3, 1) := by decide +kernel
theorem dX2_sealValue_105 : decode cX2_sealValue 105 = .ok (.iload_n 1, 1) := by decide +kernel
theorem dX2_sealValue_106 : decode cX2_sealValue 106 = .ok (.invokevirtual 254, 3) := by decide +kernel
theorem dX2_sealValue_109 : decode cX2_sealValue 109 = .ok (.ifCond .ne 10, 3) := by decide +kernel
theorem dX2_sealValue_112 : decode cX2_sealValue 112 = .ok (.bipush 6, 2) := by decide +kernel
theorem dX2_sealValue_114 : decode cX2_sealValue 114 = .ok (.iload_n 1, 1) := by decide +kernel
theorem dX2_sealValue_115 : decode cX2_sealValue 115 = .ok (.invokestatic 240, 3) := by decide +kernel
theorem dX2_sealValue_118 : decode cX2_sealValue 118 = .ok (.ireturn, 1) := by decide +kernel
theorem dX2_sealValue_119 : decode cX2_sealValue 119 = .ok (.aload_n 0, 1) := by decide +kernel
theorem dX2_sealValue_120 : decode cX2_sealValue 120 = .ok (.getfield 25, 3) := by decide +kernel
theorem dX2_sealValue_123 : decode cX2_sealValue 123 = .ok (.aload_n 3, 1) := by decide +kernel
theorem dX2_sealValue_124 : decode cX2_sealValue 124 = .ok (.getfield 181, 3) := by decide +kernel
theorem dX2_sealValue_127 : decode cX2_sealValue 127 = .ok (.bipush 6, 2) := by decide +kernel
theorem dX2_sealValue_129 : decode cX2_sealValue 129 = .ok (.iload_n 1, 1) := by decide +kernel
theorem dX2_sealValue_130 : decode cX2_sealValue 130 = .ok (.iadd, 1) := by decide +kernel
theorem dX2_sealValue_131 : decode cX2_sealValue 131 = .ok (.aaload, 1) := by decide +kernel
theorem dX2_sealValue_132 : decode cX2_sealValue 132 = .ok (.aload_n 3, 1) := by decide +kernel
theorem dX2_sealValue_133 : decode cX2_sealValue 133 = .ok (.getfield 185, 3) := by decide +kernel
theorem dX2_sealValue_136 : decode cX2_sealValue 136 = .ok (.bipush 6, 2) := by decide +kernel
theorem dX2_sealValue_138 : decode cX2_sealValue 138 = .ok (.iload_n 1, 1) := by decide +kernel
theorem dX2_sealValue_139 : decode cX2_sealValue 139 = .ok (.iadd, 1) := by decide +kernel
theorem dX2_sealValue_140 : decode cX2_sealValue 140 = .ok (.iaload, 1) := by decide +kernel
theorem dX2_sealValue_141 : decode cX2_sealValue 141 = .ok (.aload_n 0, 1) := by decide +kernel
theorem dX2_sealValue_142 : decode cX2_sealValue 142 = .ok (.getfield 35, 3) := by decide +kernel
theorem dX2_sealValue_145 : decode cX2_sealValue 145 = .ok (.invokevirtual 229, 3) := by decide +kernel
theorem dX2_sealValue_148 : decode cX2_sealValue 148 = .ok (.istore 5, 2) := by decide +kernel
theorem dX2_sealValue_150 : decode cX2_sealValue 150 = .ok (.aload_n 2, 1) := by decide +kernel
theorem dX2_sealValue_151 : decode cX2_sealValue 151 = .ok (.iload_n 1, 1) := by decide +kernel
theorem dX2_sealValue_152 : decode cX2_sealValue 152 = .ok (.invokevirtual 251, 3) := by decide +kernel
theorem dX2_sealValue_155 : decode cX2_sealValue 155 = .ok (.ifCond .eq 7, 3) := by decide +kernel
theorem dX2_sealValue_158 : decode cX2_sealValue 158 = .ok (.iconst 1, 1) := by decide +kernel
theorem dX2_sealValue_159 : decode cX2_sealValue 159 = .ok (.goto 4, 3) := by decide +kernel
theorem dX2_sealValue_162 : decode cX2_sealValue 162 = .ok (.iconst 2, 1) := by decide +kernel
theorem dX2_sealValue_163 : decode cX2_sealValue 163 = .ok (.aload_n 3, 1) := by decide +kernel
theorem dX2_sealValue_164 : decode cX2_sealValue 164 = .ok (.getfield 203, 3) := by decide +kernel
theorem dX2_sealValue_167 : decode cX2_sealValue 167 = .ok (.iload_n 1, 1) := by decide +kernel
theorem dX2_sealValue_168 : decode cX2_sealValue 168 = .ok (.iaload, 1) := by decide +kernel
theorem dX2_sealValue_169 : decode cX2_sealValue 169 = .ok (.iconst 4, 1) := by decide +kernel
theorem dX2_sealValue_170 : decode cX2_sealValue 170 = .ok (.iand, 1) := by decide +kernel
theorem dX2_sealValue_171 : decode cX2_sealValue 171 = .ok (.ior, 1) := by decide +kernel
theorem dX2_sealValue_172 : decode cX2_sealValue 172 = .ok (.istore 6, 2) := by decide +kernel
theorem dX2_sealValue_174 : decode cX2_sealValue 174 = .ok (.aload 4, 2) := by decide +kernel
theorem dX2_sealValue_176 : decode cX2_sealValue 176 = .ok (.iload_n 1, 1) := by decide +kernel
theorem dX2_sealValue_177 : decode cX2_sealValue 177 = .ok (.iload 6, 2) := by decide +kernel
theorem dX2_sealValue_179 : decode cX2_sealValue 179 = .ok (.aload_n 0, 1) := by decide +kernel
theorem dX2_sealValue_180 : decode cX2_sealValue 180 = .ok (.getfield 35, 3) := by decide +kernel
theorem dX2_sealValue_183 : decode cX2_sealValue 183 = .ok (.iload 5, 2) := by decide +kernel
theorem dX2_sealValue_185 : decode cX2_sealValue 185 = .ok (.invokevirtual 243, 3) := by decide +kernel
theorem dX2_sealValue_188 : decode cX2_sealValue 188 = .ok (.iconst 0, 1) := by decide +kernel
theorem dX2_sealValue_189 : decode cX2_sealValue 189 = .ok (.ireturn, 1) := by decide +kernel
theorem dX2_restampFunctor_0 : decode cX2_restampFunctor 0 = .ok (.aload_n 0, 1) := by decide +kernel
theorem dX2_restampFunctor_1 : decode cX2_restampFunctor 1 = .ok (.getfield 31, 3) := by decide +kernel
theorem dX2_restampFunctor_4 : decode cX2_restampFunctor 4 = .ok (.aload_n 1, 1) := by decide +kernel
theorem dX2_restampFunctor_5 : decode cX2_restampFunctor 5 = .ok (.invokevirtual 277, 3) := by decide +kernel
theorem dX2_restampFunctor_8 : decode cX2_restampFunctor 8 = .ok (.iconst 0, 1) := by decide +kernel
theorem dX2_restampFunctor_9 : decode cX2_restampFunctor 9 = .ok (.istore_n 3, 1) := by decide +kernel
theorem dX2_restampFunctor_10 : decode cX2_restampFunctor 10 = .ok (.iload_n 3, 1) := by decide +kernel
theorem dX2_restampFunctor_11 : decode cX2_restampFunctor 11 = .ok (.bipush 16, 2) := by decide +kernel
theorem dX2_restampFunctor_13 : decode cX2_restampFunctor 13 = .ok (.if_icmp .ge 88, 3) := by decide +kernel
theorem dX2_restampFunctor_16 : decode cX2_restampFunctor 16 = .ok (.aload_n 0, 1) := by decide +kernel
theorem dX2_restampFunctor_17 : decode cX2_restampFunctor 17 = .ok (.getfield 31, 3) := by decide +kernel
theorem dX2_restampFunctor_20 : decode cX2_restampFunctor 20 = .ok (.getfield 181, 3) := by decide +kernel
theorem dX2_restampFunctor_23 : decode cX2_restampFunctor 23 = .ok (.iload_n 3, 1) := by decide +kernel
theorem dX2_restampFunctor_24 : decode cX2_restampFunctor 24 = .ok (.aaload, 1) := by decide +kernel
theorem dX2_restampFunctor_25 : decode cX2_restampFunctor 25 = .ok (.astore 4, 2) := by decide +kernel
theorem dX2_restampFunctor_27 : decode cX2_restampFunctor 27 = .ok (.iconst 0, 1) := by decide +kernel
theorem dX2_restampFunctor_28 : decode cX2_restampFunctor 28 = .ok (.istore 5, 2) := by decide +kernel
theorem dX2_restampFunctor_30 : decode cX2_restampFunctor 30 = .ok (.iload 5, 2) := by decide +kernel
theorem dX2_restampFunctor_32 : decode cX2_restampFunctor 32 = .ok (.aload_n 0, 1) := by decide +kernel
theorem dX2_restampFunctor_33 : decode cX2_restampFunctor 33 = .ok (.getfield 31, 3) := by decide +kernel
theorem dJ9_max_7cf53_0 : decode cJ9_max_7cf53 0 = .ok (.iload_n 0, 1) := by decide +kernel
theorem dJ9_max_7cf53_1 : decode cJ9_max_7cf53 1 = .ok (.iload_n 1, 1) := by decide +kernel
theorem dJ9_max_7cf53_2 : decode cJ9_max_7cf53 2 = .ok (.if_icmp .lt 7, 3) := by decide +kernel
theorem dJ9_max_7cf53_5 : decode cJ9_max_7cf53 5 = .ok (.iload_n 0, 1) := by decide +kernel
theorem dJ9_max_7cf53_6 : decode cJ9_max_7cf53 6 = .ok (.goto 4, 3) := by decide +kernel
theorem dJ9_max_7cf53_9 : decode cJ9_max_7cf53 9 = .ok (.iload_n 1, 1) := by decide +kernel
theorem dJ9_max_7cf53_10 : decode cJ9_max_7cf53 10 = .ok (.ireturn, 1) := by decide +kernel
theorem dJ9_min_7cf53_0 : decode cJ9_min_7cf53 0 = .ok (.iload_n 0, 1) := by decide +kernel
theorem dJ9_min_7cf53_1 : decode cJ9_min_7cf53 1 = .ok (.iload_n 1, 1) := by decide +kernel
theorem dJ9_min_7cf53_2 : decode cJ9_min_7cf53 2 = .ok (.if_icmp .gt 7, 3) := by decide +kernel
theorem dJ9_min_7cf53_5 : decode cJ9_min_7cf53 5 = .ok (.iload_n 0, 1) := by decide +kernel
theorem dJ9_min_7cf53_6 : decode cJ9_min_7cf53 6 = .ok (.goto 4, 3) := by decide +kernel
theorem dJ9_min_7cf53_9 : decode cJ9_min_7cf53 9 = .ok (.iload_n 1, 1) := by decide +kernel
theorem dJ9_min_7cf53_10 : decode cJ9_min_7cf53 10 = .ok (.ireturn, 1) := by decide +kernel
theorem dJ9_min_f86c9_0 : decode cJ9_min_f86c9 0 = .ok (.lload_n 0, 1) := by decide +kernel
theorem dJ9_min_f86c9_1 : decode cJ9_min_f86c9 1 = .ok (.lload_n 2, 1) := by decide +kernel
theorem dJ9_min_f86c9_2 : decode cJ9_min_f86c9 2 = .ok (.lcmp, 1) := by decide +kernel
theorem dJ9_min_f86c9_3 : decode cJ9_min_f86c9 3 = .ok (.ifCond .gt 7, 3) := by decide +kernel
theorem dJ9_min_f86c9_6 : decode cJ9_min_f86c9 6 = .ok (.lload_n 0, 1) := by decide +kernel
theorem dJ9_min_f86c9_7 : decode cJ9_min_f86c9 7 = .ok (.goto 4, 3) := by decide +kernel
theorem dJ9_min_f86c9_10 : decode cJ9_min_f86c9 10 = .ok (.lload_n 2, 1) := by decide +kernel
theorem dJ9_min_f86c9_11 : decode cJ9_min_f86c9 11 = .ok (.lreturn, 1) := by decide +kernel
theorem dJxa1e45_init_da8c8_0 : decode cJxa1e45_init_da8c8 0 = .ok (.aload_n 0, 1) := by decide +kernel
theorem dJxa1e45_init_da8c8_1 : decode cJxa1e45_init_da8c8 1 = .ok (.invokespecial 1, 3) := by decide +kernel
theorem dJxa1e45_init_da8c8_4 : decode cJxa1e45_init_da8c8 4 = .ok (.return_, 1) := by decide +kernel
theorem dJxc12de_init_da8c8_0 : decode cJxc12de_init_da8c8 0 = .ok (.aload_n 0, 1) := by decide +kernel
theorem dJxc12de_init_da8c8_1 : decode cJxc12de_init_da8c8 1 = .ok (.invokespecial 1, 3) := by decide +kernel
theorem dJxc12de_init_da8c8_4 : decode cJxc12de_init_da8c8 4 = .ok (.aload_n 0, 1) := by decide +kernel
theorem dJxc12de_init_da8c8_5 : decode cJxc12de_init_da8c8 5 = .ok (.iconst 0, 1) := by decide +kernel
theorem dJxc12de_init_da8c8_6 : decode cJxc12de_init_da8c8 6 = .ok (.putfield 7, 3) := by decide +kernel
theorem dJxc12de_init_da8c8_9 : decode cJxc12de_init_da8c8 9 = .ok (.return_, 1) := by decide +kernel
theorem dJx4a65c_init_da8c8_0 : decode cJx4a65c_init_da8c8 0 = .ok (.aload_n 0, 1) := by decide +kernel
theorem dJx4a65c_init_da8c8_1 : decode cJx4a65c_init_da8c8 1 = .ok (.invokespecial 1, 3) := by decide +kernel
theorem dJx4a65c_init_da8c8_4 : decode cJx4a65c_init_da8c8 4 = .ok (.aload_n 0, 1) := by decide +kernel
theorem dJx4a65c_init_da8c8_5 : decode cJx4a65c_init_da8c8 5 = .ok (.getstatic 39, 3) := by decide +kernel
theorem dJx4a65c_init_da8c8_8 : decode cJx4a65c_init_da8c8 8 = .ok (.putfield 9, 3) := by decide +kernel
theorem dJx4a65c_init_da8c8_11 : decode cJx4a65c_init_da8c8 11 = .ok (.return_, 1) := by decide +kernel
theorem dJx4a65c_grow_92f84_0 : decode cJx4a65c_grow_92f84 0 = .ok (.aload_n 0, 1) := by decide +kernel
theorem dJx4a65c_grow_92f84_1 : decode cJx4a65c_grow_92f84 1 = .ok (.getfield 9, 3) := by decide +kernel
theorem dJx4a65c_grow_92f84_4 : decode cJx4a65c_grow_92f84 4 = .ok (.arraylength, 1) := by decide +kernel
theorem dJx4a65c_grow_92f84_5 : decode cJx4a65c_grow_92f84 5 = .ok (.istore_n 2, 1) := by decide +kernel
theorem dJx4a65c_grow_92f84_6 : decode cJx4a65c_grow_92f84 6 = .ok (.iload_n 2, 1) := by decide +kernel
theorem dJx4a65c_grow_92f84_7 : decode cJx4a65c_grow_92f84 7 = .ok (.ifCond .gt 13, 3) := by decide +kernel
theorem dJx4a65c_grow_92f84_10 : decode cJx4a65c_grow_92f84 10 = .ok (.aload_n 0, 1) := by decide +kernel
theorem dJx4a65c_grow_92f84_11 : decode cJx4a65c_grow_92f84 11 = .ok (.getfield 9, 3) := by decide +kernel
theorem dJx4a65c_grow_92f84_14 : decode cJx4a65c_grow_92f84 14 = .ok (.getstatic 39, 3) := by decide +kernel
theorem dJx4a65c_grow_92f84_17 : decode cJx4a65c_grow_92f84 17 = .ok (.if_acmp .eq 28, 3) := by decide +kernel
theorem dJx4a65c_grow_92f84_20 : decode cJx4a65c_grow_92f84 20 = .ok (.iload_n 2, 1) := by decide +kernel
theorem dJx4a65c_grow_92f84_21 : decode cJx4a65c_grow_92f84 21 = .ok (.iload_n 1, 1) := by decide +kernel
theorem dJx4a65c_grow_92f84_22 : decode cJx4a65c_grow_92f84 22 = .ok (.iload_n 2, 1) := by decide +kernel
theorem dJx4a65c_grow_92f84_23 : decode cJx4a65c_grow_92f84 23 = .ok (.isub, 1) := by decide +kernel
theorem dJx4a65c_grow_92f84_24 : decode cJx4a65c_grow_92f84 24 = .ok (.iload_n 2, 1) := by decide +kernel
theorem dJx4a65c_grow_92f84_25 : decode cJx4a65c_grow_92f84 25 = .ok (.iconst 1, 1) := by decide +kernel
theorem dJx4a65c_grow_92f84_26 : decode cJx4a65c_grow_92f84 26 = .ok (.ishr, 1) := by decide +kernel
theorem dJx4a65c_grow_92f84_27 : decode cJx4a65c_grow_92f84 27 = .ok (.invokestatic 73, 3) := by decide +kernel
theorem dJx4a65c_grow_92f84_30 : decode cJx4a65c_grow_92f84 30 = .ok (.istore_n 3, 1) := by decide +kernel
theorem dJx4a65c_grow_92f84_31 : decode cJx4a65c_grow_92f84 31 = .ok (.aload_n 0, 1) := by decide +kernel
theorem dJx4a65c_grow_92f84_32 : decode cJx4a65c_grow_92f84 32 = .ok (.aload_n 0, 1) := by decide +kernel
theorem dJx4a65c_grow_92f84_33 : decode cJx4a65c_grow_92f84 33 = .ok (.getfield 9, 3) := by decide +kernel
theorem dJx4a65c_grow_92f84_36 : decode cJx4a65c_grow_92f84 36 = .ok (.iload_n 3, 1) := by decide +kernel
theorem dJx4a65c_grow_92f84_37 : decode cJx4a65c_grow_92f84 37 = .ok (.invokestatic 66, 3) := by decide +kernel
theorem dJx4a65c_grow_92f84_40 : decode cJx4a65c_grow_92f84 40 = .ok (.dup_x1, 1) := by decide +kernel
theorem dJx4a65c_grow_92f84_41 : decode cJx4a65c_grow_92f84 41 = .ok (.putfield 9, 3) := by decide +kernel
theorem dJx4a65c_grow_92f84_44 : decode cJx4a65c_grow_92f84 44 = .ok (.areturn, 1) := by decide +kernel
theorem dJx4a65c_grow_92f84_45 : decode cJx4a65c_grow_92f84 45 = .ok (.aload_n 0, 1) := by decide +kernel
theorem dJx4a65c_grow_92f84_46 : decode cJx4a65c_grow_92f84 46 = .ok (.bipush 10, 2) := by decide +kernel
theorem dJx4a65c_grow_92f84_48 : decode cJx4a65c_grow_92f84 48 = .ok (.iload_n 1, 1) := by decide +kernel
theorem dJx4a65c_grow_92f84_49 : decode cJx4a65c_grow_92f84 49 = .ok (.invokestatic 79, 3) := by decide +kernel
theorem dJx4a65c_grow_92f84_52 : decode cJx4a65c_grow_92f84 52 = .ok (.anewarray 7, 3) := by decide +kernel
theorem dJx4a65c_grow_92f84_55 : decode cJx4a65c_grow_92f84 55 = .ok (.dup_x1, 1) := by decide +kernel
theorem dJx4a65c_grow_92f84_56 : decode cJx4a65c_grow_92f84 56 = .ok (.putfield 9, 3) := by decide +kernel
theorem dJx4a65c_grow_92f84_59 : decode cJx4a65c_grow_92f84 59 = .ok (.areturn, 1) := by decide +kernel
theorem dJx4a65c_grow_d5877_0 : decode cJx4a65c_grow_d5877 0 = .ok (.aload_n 0, 1) := by decide +kernel
theorem dJx4a65c_grow_d5877_1 : decode cJx4a65c_grow_d5877 1 = .ok (.aload_n 0, 1) := by decide +kernel
theorem dJx4a65c_grow_d5877_2 : decode cJx4a65c_grow_d5877 2 = .ok (.getfield 48, 3) := by decide +kernel
theorem dJx4a65c_grow_d5877_5 : decode cJx4a65c_grow_d5877 5 = .ok (.iconst 1, 1) := by decide +kernel
theorem dJx4a65c_grow_d5877_6 : decode cJx4a65c_grow_d5877 6 = .ok (.iadd, 1) := by decide +kernel
theorem dJx4a65c_grow_d5877_7 : decode cJx4a65c_grow_d5877 7 = .ok (.invokevirtual 69, 3) := by decide +kernel
theorem dJx4a65c_grow_d5877_10 : decode cJx4a65c_grow_d5877 10 = .ok (.areturn, 1) := by decide +kernel
theorem dJx4a65c_size_8abf5_0 : decode cJx4a65c_size_8abf5 0 = .ok (.aload_n 0, 1) := by decide +kernel
theorem dJx4a65c_size_8abf5_1 : decode cJx4a65c_size_8abf5 1 = .ok (.getfield 48, 3) := by decide +kernel
theorem dJx4a65c_size_8abf5_4 : decode cJx4a65c_size_8abf5 4 = .ok (.ireturn, 1) := by decide +kernel
theorem dJx4a65c_elementData_915e3_0 : decode cJx4a65c_elementData_915e3 0 = .ok (.aload_n 0, 1) := by decide +kernel
theorem dJx4a65c_elementData_915e3_1 : decode cJx4a65c_elementData_915e3 1 = .ok (.getfield 9, 3) := by decide +kernel
theorem dJx4a65c_elementData_915e3_4 : decode cJx4a65c_elementData_915e3 4 = .ok (.iload_n 1, 1) := by decide +kernel
theorem dJx4a65c_elementData_915e3_5 : decode cJx4a65c_elementData_915e3 5 = .ok (.aaload, 1) := by decide +kernel
theorem dJx4a65c_elementData_915e3_6 : decode cJx4a65c_elementData_915e3 6 = .ok (.areturn, 1) := by decide +kernel
theorem dJx4a65c_get_915e3_0 : decode cJx4a65c_get_915e3 0 = .ok (.iload_n 1, 1) := by decide +kernel
theorem dJx4a65c_get_915e3_1 : decode cJx4a65c_get_915e3 1 = .ok (.aload_n 0, 1) := by decide +kernel
theorem dJx4a65c_get_915e3_2 : decode cJx4a65c_get_915e3 2 = .ok (.getfield 48, 3) := by decide +kernel
theorem dJx4a65c_get_915e3_5 : decode cJx4a65c_get_915e3 5 = .ok (.invokestatic 118, 3) := by decide +kernel
theorem dJx4a65c_get_915e3_8 : decode cJx4a65c_get_915e3 8 = .ok (.pop, 1) := by decide +kernel
theorem dJx4a65c_get_915e3_9 : decode cJx4a65c_get_915e3 9 = .ok (.aload_n 0, 1) := by decide +kernel
theorem dJx4a65c_get_915e3_10 : decode cJx4a65c_get_915e3 10 = .ok (.iload_n 1, 1) := by decide +kernel
theorem dJx4a65c_get_915e3_11 : decode cJx4a65c_get_915e3 11 = .ok (.invokevirtual 123, 3) := by decide +kernel
theorem dJx4a65c_get_915e3_14 : decode cJx4a65c_get_915e3 14 = .ok (.areturn, 1) := by decide +kernel
theorem dJx4a65c_add_72be8_0 : decode cJx4a65c_add_72be8 0 = .ok (.iload_n 3, 1) := by decide +kernel
theorem dJx4a65c_add_72be8_1 : decode cJx4a65c_add_72be8 1 = .ok (.aload_n 2, 1) := by decide +kernel
theorem dJx4a65c_add_72be8_2 : decode cJx4a65c_add_72be8 2 = .ok (.arraylength, 1) := by decide +kernel
theorem dJx4a65c_add_72be8_3 : decode cJx4a65c_add_72be8 3 = .ok (.if_icmp .ne 8, 3) := by decide +kernel
theorem dJx4a65c_add_72be8_6 : decode cJx4a65c_add_72be8 6 = .ok (.aload_n 0, 1) := by decide +kernel
theorem dJx4a65c_add_72be8_7 : decode cJx4a65c_add_72be8 7 = .ok (.invokevirtual 129, 3) := by decide +kernel
theorem dJx4a65c_add_72be8_10 : decode cJx4a65c_add_72be8 10 = .ok (.astore_n 2, 1) := by decide +kernel
theorem dJx4a65c_add_72be8_11 : decode cJx4a65c_add_72be8 11 = .ok (.aload_n 2, 1) := by decide +kernel
theorem dJx4a65c_add_72be8_12 : decode cJx4a65c_add_72be8 12 = .ok (.iload_n 3, 1) := by decide +kernel
theorem dJx4a65c_add_72be8_13 : decode cJx4a65c_add_72be8 13 = .ok (.aload_n 1, 1) := by decide +kernel
theorem dJx4a65c_add_72be8_14 : decode cJx4a65c_add_72be8 14 = .ok (.aastore, 1) := by decide +kernel
theorem dJx4a65c_add_72be8_15 : decode cJx4a65c_add_72be8 15 = .ok (.aload_n 0, 1) := by decide +kernel
theorem dJx4a65c_add_72be8_16 : decode cJx4a65c_add_72be8 16 = .ok (.iload_n 3, 1) := by decide +kernel
theorem dJx4a65c_add_72be8_17 : decode cJx4a65c_add_72be8 17 = .ok (.iconst 1, 1) := by decide +kernel
theorem dJx4a65c_add_72be8_18 : decode cJx4a65c_add_72be8 18 = .ok (.iadd, 1) := by decide +kernel
theorem dJx4a65c_add_72be8_19 : decode cJx4a65c_add_72be8 19 = .ok (.putfield 48, 3) := by decide +kernel
theorem dJx4a65c_add_72be8_22 : decode cJx4a65c_add_72be8 22 = .ok (.return_, 1) := by decide +kernel
theorem dJx4a65c_add_9ea2d_0 : decode cJx4a65c_add_9ea2d 0 = .ok (.aload_n 0, 1) := by decide +kernel
theorem dJx4a65c_add_9ea2d_1 : decode cJx4a65c_add_9ea2d 1 = .ok (.dup, 1) := by decide +kernel
theorem dJx4a65c_add_9ea2d_2 : decode cJx4a65c_add_9ea2d 2 = .ok (.getfield 63, 3) := by decide +kernel
theorem dJx4a65c_add_9ea2d_5 : decode cJx4a65c_add_9ea2d 5 = .ok (.iconst 1, 1) := by decide +kernel
theorem dJx4a65c_add_9ea2d_6 : decode cJx4a65c_add_9ea2d 6 = .ok (.iadd, 1) := by decide +kernel
theorem dJx4a65c_add_9ea2d_7 : decode cJx4a65c_add_9ea2d 7 = .ok (.putfield 63, 3) := by decide +kernel
theorem dJx4a65c_add_9ea2d_10 : decode cJx4a65c_add_9ea2d 10 = .ok (.aload_n 0, 1) := by decide +kernel
theorem dJx4a65c_add_9ea2d_11 : decode cJx4a65c_add_9ea2d 11 = .ok (.aload_n 1, 1) := by decide +kernel
theorem dJx4a65c_add_9ea2d_12 : decode cJx4a65c_add_9ea2d 12 = .ok (.aload_n 0, 1) := by decide +kernel
theorem dJx4a65c_add_9ea2d_13 : decode cJx4a65c_add_9ea2d 13 = .ok (.getfield 9, 3) := by decide +kernel
theorem dJx4a65c_add_9ea2d_16 : decode cJx4a65c_add_9ea2d 16 = .ok (.aload_n 0, 1) := by decide +kernel
theorem dJx4a65c_add_9ea2d_17 : decode cJx4a65c_add_9ea2d 17 = .ok (.getfield 48, 3) := by decide +kernel
theorem dJx4a65c_add_9ea2d_20 : decode cJx4a65c_add_9ea2d 20 = .ok (.invokevirtual 131, 3) := by decide +kernel
theorem dJx4a65c_add_9ea2d_23 : decode cJx4a65c_add_9ea2d 23 = .ok (.iconst 1, 1) := by decide +kernel
theorem dJx4a65c_add_9ea2d_24 : decode cJx4a65c_add_9ea2d 24 = .ok (.ireturn, 1) := by decide +kernel
theorem dJ7_fill_53178_0 : decode cJ7_fill_53178 0 = .ok (.iconst 0, 1) := by decide +kernel
theorem dJ7_fill_53178_1 : decode cJ7_fill_53178 1 = .ok (.istore_n 2, 1) := by decide +kernel
theorem dJ7_fill_53178_2 : decode cJ7_fill_53178 2 = .ok (.aload_n 0, 1) := by decide +kernel
theorem dJ7_fill_53178_3 : decode cJ7_fill_53178 3 = .ok (.arraylength, 1) := by decide +kernel
theorem dJ7_fill_53178_4 : decode cJ7_fill_53178 4 = .ok (.istore_n 3, 1) := by decide +kernel
theorem dJ7_fill_53178_5 : decode cJ7_fill_53178 5 = .ok (.iload_n 2, 1) := by decide +kernel
theorem dJ7_fill_53178_6 : decode cJ7_fill_53178 6 = .ok (.iload_n 3, 1) := by decide +kernel
theorem dJ7_fill_53178_7 : decode cJ7_fill_53178 7 = .ok (.if_icmp .ge 13, 3) := by decide +kernel
theorem dJ7_fill_53178_10 : decode cJ7_fill_53178 10 = .ok (.aload_n 0, 1) := by decide +kernel
theorem dJ7_fill_53178_11 : decode cJ7_fill_53178 11 = .ok (.iload_n 2, 1) := by decide +kernel
theorem dJ7_fill_53178_12 : decode cJ7_fill_53178 12 = .ok (.iload_n 1, 1) := by decide +kernel
theorem dJ7_fill_53178_13 : decode cJ7_fill_53178 13 = .ok (.iastore, 1) := by decide +kernel
theorem dJ7_fill_53178_14 : decode cJ7_fill_53178 14 = .ok (.iinc 2 1, 3) := by decide +kernel
theorem dJ7_fill_53178_17 : decode cJ7_fill_53178 17 = .ok (.goto (-12), 3) := by decide +kernel
theorem dJ7_fill_53178_20 : decode cJ7_fill_53178 20 = .ok (.return_, 1) := by decide +kernel
theorem dJ7_copyOf_1904c_0 : decode cJ7_copyOf_1904c 0 = .ok (.aload_n 0, 1) := by decide +kernel
theorem dJ7_copyOf_1904c_1 : decode cJ7_copyOf_1904c 1 = .ok (.iload_n 1, 1) := by decide +kernel
theorem dJ7_copyOf_1904c_2 : decode cJ7_copyOf_1904c 2 = .ok (.aload_n 0, 1) := by decide +kernel
theorem dJ7_copyOf_1904c_3 : decode cJ7_copyOf_1904c 3 = .ok (.invokevirtual 86, 3) := by decide +kernel
theorem dJ7_copyOf_1904c_6 : decode cJ7_copyOf_1904c 6 = .ok (.invokestatic 300, 3) := by decide +kernel
theorem dJ7_copyOf_1904c_9 : decode cJ7_copyOf_1904c 9 = .ok (.areturn, 1) := by decide +kernel
theorem dJ7_copyOf_6403c_0 : decode cJ7_copyOf_6403c 0 = .ok (.aload_n 2, 1) := by decide +kernel
theorem dJ7_copyOf_6403c_1 : decode cJ7_copyOf_6403c 1 = .ok (.ldc 110, 2) := by decide +kernel
theorem dJ7_copyOf_6403c_3 : decode cJ7_copyOf_6403c 3 = .ok (.if_acmp .ne 10, 3) := by decide +kernel
theorem dJ7_copyOf_6403c_6 : decode cJ7_copyOf_6403c 6 = .ok (.iload_n 1, 1) := by decide +kernel
theorem dJ7_copyOf_6403c_7 : decode cJ7_copyOf_6403c 7 = .ok (.anewarray 2, 3) := by decide +kernel
theorem dJ7_copyOf_6403c_10 : decode cJ7_copyOf_6403c 10 = .ok (.goto 14, 3) := by decide +kernel
theorem dJ7_copyOf_6403c_13 : decode cJ7_copyOf_6403c 13 = .ok (.aload_n 2, 1) := by decide +kernel
theorem dJ7_copyOf_6403c_14 : decode cJ7_copyOf_6403c 14 = .ok (.invokevirtual 90, 3) := by decide +kernel
theorem dJ7_copyOf_6403c_17 : decode cJ7_copyOf_6403c 17 = .ok (.iload_n 1, 1) := by decide +kernel
theorem dJ7_copyOf_6403c_18 : decode cJ7_copyOf_6403c 18 = .ok (.invokestatic 95, 3) := by decide +kernel
theorem dJ7_copyOf_6403c_21 : decode cJ7_copyOf_6403c 21 = .ok (.checkcast 110, 3) := by decide +kernel
theorem dJ7_copyOf_6403c_24 : decode cJ7_copyOf_6403c 24 = .ok (.astore_n 3, 1) := by decide +kernel
theorem dJ7_copyOf_6403c_25 : decode cJ7_copyOf_6403c 25 = .ok (.aload_n 0, 1) := by decide +kernel
theorem dJ7_copyOf_6403c_26 : decode cJ7_copyOf_6403c 26 = .ok (.iconst 0, 1) := by decide +kernel
theorem dJ7_copyOf_6403c_27 : decode cJ7_copyOf_6403c 27 = .ok (.aload_n 3, 1) := by decide +kernel
theorem dJ7_copyOf_6403c_28 : decode cJ7_copyOf_6403c 28 = .ok (.iconst 0, 1) := by decide +kernel
theorem dJ7_copyOf_6403c_29 : decode cJ7_copyOf_6403c 29 = .ok (.aload_n 0, 1) := by decide +kernel
theorem dJ7_copyOf_6403c_30 : decode cJ7_copyOf_6403c 30 = .ok (.arraylength, 1) := by decide +kernel
theorem dJ7_copyOf_6403c_31 : decode cJ7_copyOf_6403c 31 = .ok (.iload_n 1, 1) := by decide +kernel
theorem dJ7_copyOf_6403c_32 : decode cJ7_copyOf_6403c 32 = .ok (.invokestatic 304, 3) := by decide +kernel
theorem dJ7_copyOf_6403c_35 : decode cJ7_copyOf_6403c 35 = .ok (.invokestatic 150, 3) := by decide +kernel
theorem dJ7_copyOf_6403c_38 : decode cJ7_copyOf_6403c 38 = .ok (.aload_n 3, 1) := by decide +kernel
theorem dJ7_copyOf_6403c_39 : decode cJ7_copyOf_6403c 39 = .ok (.areturn, 1) := by decide +kernel
theorem dJ7_copyOf_59c91_0 : decode cJ7_copyOf_59c91 0 = .ok (.iload_n 1, 1) := by decide +kernel
theorem dJ7_copyOf_59c91_1 : decode cJ7_copyOf_59c91 1 = .ok (.aload_n 0, 1) := by decide +kernel
theorem dJ7_copyOf_59c91_2 : decode cJ7_copyOf_59c91 2 = .ok (.arraylength, 1) := by decide +kernel
theorem dJ7_copyOf_59c91_3 : decode cJ7_copyOf_59c91 3 = .ok (.if_icmp .ne 11, 3) := by decide +kernel
theorem dJ7_copyOf_59c91_6 : decode cJ7_copyOf_59c91 6 = .ok (.aload_n 0, 1) := by decide +kernel
theorem dJ7_copyOf_59c91_7 : decode cJ7_copyOf_59c91 7 = .ok (.invokevirtual 316, 3) := by decide +kernel
theorem dJ7_copyOf_59c91_10 : decode cJ7_copyOf_59c91 10 = .ok (.checkcast 317, 3) := by decide +kernel
theorem dJ7_copyOf_59c91_13 : decode cJ7_copyOf_59c91 13 = .ok (.areturn, 1) := by decide +kernel
theorem dJ7_copyOf_59c91_14 : decode cJ7_copyOf_59c91 14 = .ok (.iload_n 1, 1) := by decide +kernel
theorem dJ7_copyOf_59c91_15 : decode cJ7_copyOf_59c91 15 = .ok (.newarray .int, 2) := by decide +kernel
theorem dJ7_copyOf_59c91_17 : decode cJ7_copyOf_59c91 17 = .ok (.astore_n 2, 1) := by decide +kernel
theorem dJ7_copyOf_59c91_18 : decode cJ7_copyOf_59c91 18 = .ok (.aload_n 0, 1) := by decide +kernel
theorem dJ7_copyOf_59c91_19 : decode cJ7_copyOf_59c91 19 = .ok (.iconst 0, 1) := by decide +kernel
theorem dJ7_copyOf_59c91_20 : decode cJ7_copyOf_59c91 20 = .ok (.aload_n 2, 1) := by decide +kernel
theorem dJ7_copyOf_59c91_21 : decode cJ7_copyOf_59c91 21 = .ok (.iconst 0, 1) := by decide +kernel
theorem dJ7_copyOf_59c91_22 : decode cJ7_copyOf_59c91 22 = .ok (.aload_n 0, 1) := by decide +kernel
theorem dJ7_copyOf_59c91_23 : decode cJ7_copyOf_59c91 23 = .ok (.arraylength, 1) := by decide +kernel
theorem dJ7_copyOf_59c91_24 : decode cJ7_copyOf_59c91 24 = .ok (.iload_n 1, 1) := by decide +kernel
theorem dJ7_copyOf_59c91_25 : decode cJ7_copyOf_59c91 25 = .ok (.invokestatic 304, 3) := by decide +kernel
theorem dJ7_copyOf_59c91_28 : decode cJ7_copyOf_59c91 28 = .ok (.invokestatic 150, 3) := by decide +kernel
theorem dJ7_copyOf_59c91_31 : decode cJ7_copyOf_59c91 31 = .ok (.aload_n 2, 1) := by decide +kernel
theorem dJ7_copyOf_59c91_32 : decode cJ7_copyOf_59c91 32 = .ok (.areturn, 1) := by decide +kernel
theorem dJ7_copyOf_c38d5_0 : decode cJ7_copyOf_c38d5 0 = .ok (.iload_n 1, 1) := by decide +kernel
theorem dJ7_copyOf_c38d5_1 : decode cJ7_copyOf_c38d5 1 = .ok (.aload_n 0, 1) := by decide +kernel
theorem dJ7_copyOf_c38d5_2 : decode cJ7_copyOf_c38d5 2 = .ok (.arraylength, 1) := by decide +kernel
theorem dJ7_copyOf_c38d5_3 : decode cJ7_copyOf_c38d5 3 = .ok (.if_icmp .ne 11, 3) := by decide +kernel
theorem dJ7_copyOf_c38d5_6 : decode cJ7_copyOf_c38d5 6 = .ok (.aload_n 0, 1) := by decide +kernel
theorem dJ7_copyOf_c38d5_7 : decode cJ7_copyOf_c38d5 7 = .ok (.invokevirtual 319, 3) := by decide +kernel
theorem dJ7_copyOf_c38d5_10 : decode cJ7_copyOf_c38d5 10 = .ok (.checkcast 320, 3) := by decide +kernel
theorem dJ7_copyOf_c38d5_13 : decode cJ7_copyOf_c38d5 13 = .ok (.areturn, 1) := by decide +kernel
theorem dJ7_copyOf_c38d5_14 : decode cJ7_copyOf_c38d5 14 = .ok (.iload_n 1, 1) := by decide +kernel
theorem dJ7_copyOf_c38d5_15 : decode cJ7_copyOf_c38d5 15 = .ok (.newarray .long, 2) := by decide +kernel
theorem dJ7_copyOf_c38d5_17 : decode cJ7_copyOf_c38d5 17 = .ok (.astore_n 2, 1) := by decide +kernel
theorem dJ7_copyOf_c38d5_18 : decode cJ7_copyOf_c38d5 18 = .ok (.aload_n 0, 1) := by decide +kernel
theorem dJ7_copyOf_c38d5_19 : decode cJ7_copyOf_c38d5 19 = .ok (.iconst 0, 1) := by decide +kernel
theorem dJ7_copyOf_c38d5_20 : decode cJ7_copyOf_c38d5 20 = .ok (.aload_n 2, 1) := by decide +kernel
theorem dJ7_copyOf_c38d5_21 : decode cJ7_copyOf_c38d5 21 = .ok (.iconst 0, 1) := by decide +kernel
theorem dJ7_copyOf_c38d5_22 : decode cJ7_copyOf_c38d5 22 = .ok (.aload_n 0, 1) := by decide +kernel
theorem dJ7_copyOf_c38d5_23 : decode cJ7_copyOf_c38d5 23 = .ok (.arraylength, 1) := by decide +kernel
theorem dJ7_copyOf_c38d5_24 : decode cJ7_copyOf_c38d5 24 = .ok (.iload_n 1, 1) := by decide +kernel
theorem dJ7_copyOf_c38d5_25 : decode cJ7_copyOf_c38d5 25 = .ok (.invokestatic 304, 3) := by decide +kernel
theorem dJ7_copyOf_c38d5_28 : decode cJ7_copyOf_c38d5 28 = .ok (.invokestatic 150, 3) := by decide +kernel
theorem dJ7_copyOf_c38d5_31 : decode cJ7_copyOf_c38d5 31 = .ok (.aload_n 2, 1) := by decide +kernel
theorem dJ7_copyOf_c38d5_32 : decode cJ7_copyOf_c38d5 32 = .ok (.areturn, 1) := by decide +kernel
theorem dJ15_checkIndex_7cf53_0 : decode cJ15_checkIndex_7cf53 0 = .ok (.iload_n 0, 1) := by decide +kernel
theorem dJ15_checkIndex_7cf53_1 : decode cJ15_checkIndex_7cf53 1 = .ok (.iload_n 1, 1) := by decide +kernel
theorem dJ15_checkIndex_7cf53_2 : decode cJ15_checkIndex_7cf53 2 = .ok (.aconst_null, 1) := by decide +kernel
theorem dJ15_checkIndex_7cf53_3 : decode cJ15_checkIndex_7cf53 3 = .ok (.invokestatic 105, 3) := by decide +kernel
theorem dJ15_checkIndex_7cf53_6 : decode cJ15_checkIndex_7cf53 6 = .ok (.ireturn, 1) := by decide +kernel
theorem dJ8_newLength_cabcc_0 : decode cJ8_newLength_cabcc 0 = .ok (.iload_n 0, 1) := by decide +kernel
theorem dJ8_newLength_cabcc_1 : decode cJ8_newLength_cabcc 1 = .ok (.iload_n 1, 1) := by decide +kernel
theorem dJ8_newLength_cabcc_2 : decode cJ8_newLength_cabcc 2 = .ok (.iload_n 2, 1) := by decide +kernel
theorem dJ8_newLength_cabcc_3 : decode cJ8_newLength_cabcc 3 = .ok (.invokestatic 194, 3) := by decide +kernel
theorem dJ8_newLength_cabcc_6 : decode cJ8_newLength_cabcc 6 = .ok (.iadd, 1) := by decide +kernel
theorem dJ8_newLength_cabcc_7 : decode cJ8_newLength_cabcc 7 = .ok (.istore_n 3, 1) := by decide +kernel
theorem dJ8_newLength_cabcc_8 : decode cJ8_newLength_cabcc 8 = .ok (.iconst 0, 1) := by decide +kernel
theorem dJ8_newLength_cabcc_9 : decode cJ8_newLength_cabcc 9 = .ok (.iload_n 3, 1) := by decide +kernel
theorem dJ8_newLength_cabcc_10 : decode cJ8_newLength_cabcc 10 = .ok (.if_icmp .ge 11, 3) := by decide +kernel
theorem dJ8_newLength_cabcc_13 : decode cJ8_newLength_cabcc 13 = .ok (.iload_n 3, 1) := by decide +kernel
theorem dJ8_newLength_cabcc_14 : decode cJ8_newLength_cabcc 14 = .ok (.ldc 200, 2) := by decide +kernel
theorem dJ8_newLength_cabcc_16 : decode cJ8_newLength_cabcc 16 = .ok (.if_icmp .gt 5, 3) := by decide +kernel
theorem dJ8_newLength_cabcc_19 : decode cJ8_newLength_cabcc 19 = .ok (.iload_n 3, 1) := by decide +kernel
theorem dJ8_newLength_cabcc_20 : decode cJ8_newLength_cabcc 20 = .ok (.ireturn, 1) := by decide +kernel
theorem dJ8_newLength_cabcc_21 : decode cJ8_newLength_cabcc 21 = .ok (.iload_n 0, 1) := by decide +kernel
theorem dJ8_newLength_cabcc_22 : decode cJ8_newLength_cabcc 22 = .ok (.iload_n 1, 1) := by decide +kernel
theorem dJ8_newLength_cabcc_23 : decode cJ8_newLength_cabcc 23 = .ok (.invokestatic 201, 3) := by decide +kernel
theorem dJ8_newLength_cabcc_26 : decode cJ8_newLength_cabcc 26 = .ok (.ireturn, 1) := by decide +kernel
theorem dJ8_hugeLength_7cf53_0 : decode cJ8_hugeLength_7cf53 0 = .ok (.iload_n 0, 1) := by decide +kernel
theorem dJ8_hugeLength_7cf53_1 : decode cJ8_hugeLength_7cf53 1 = .ok (.iload_n 1, 1) := by decide +kernel
theorem dJ8_hugeLength_7cf53_2 : decode cJ8_hugeLength_7cf53 2 = .ok (.iadd, 1) := by decide +kernel
theorem dJ8_hugeLength_7cf53_3 : decode cJ8_hugeLength_7cf53 3 = .ok (.istore_n 2, 1) := by decide +kernel
theorem dJ8_hugeLength_7cf53_4 : decode cJ8_hugeLength_7cf53 4 = .ok (.iload_n 2, 1) := by decide +kernel
theorem dJ8_hugeLength_7cf53_5 : decode cJ8_hugeLength_7cf53 5 = .ok (.ifCond .ge 44, 3) := by decide +kernel
theorem dJ8_hugeLength_7cf53_8 : decode cJ8_hugeLength_7cf53 8 = .ok (.new 204, 3) := by decide +kernel
theorem dJ8_hugeLength_7cf53_11 : decode cJ8_hugeLength_7cf53 11 = .ok (.dup, 1) := by decide +kernel
theorem dJ8_hugeLength_7cf53_12 : decode cJ8_hugeLength_7cf53 12 = .ok (.new 89, 3) := by decide +kernel
theorem dJ8_hugeLength_7cf53_15 : decode cJ8_hugeLength_7cf53 15 = .ok (.dup, 1) := by decide +kernel
theorem dJ8_hugeLength_7cf53_16 : decode cJ8_hugeLength_7cf53 16 = .ok (.invokespecial 91, 3) := by decide +kernel
theorem dJ8_hugeLength_7cf53_19 : decode cJ8_hugeLength_7cf53 19 = .ok (.ldc 206, 2) := by decide +kernel
theorem dJ8_hugeLength_7cf53_21 : decode cJ8_hugeLength_7cf53 21 = .ok (.invokevirtual 94, 3) := by decide +kernel
theorem dJ8_hugeLength_7cf53_24 : decode cJ8_hugeLength_7cf53 24 = .ok (.iload_n 0, 1) := by decide +kernel
theorem dJ8_hugeLength_7cf53_25 : decode cJ8_hugeLength_7cf53 25 = .ok (.invokevirtual 98, 3) := by decide +kernel
theorem dJ8_hugeLength_7cf53_28 : decode cJ8_hugeLength_7cf53 28 = .ok (.ldc 208, 2) := by decide +kernel
theorem dJ8_hugeLength_7cf53_30 : decode cJ8_hugeLength_7cf53 30 = .ok (.invokevirtual 94, 3) := by decide +kernel
theorem dJ8_hugeLength_7cf53_33 : decode cJ8_hugeLength_7cf53 33 = .ok (.iload_n 1, 1) := by decide +kernel
theorem dJ8_hugeLength_7cf53_34 : decode cJ8_hugeLength_7cf53 34 = .ok (.invokevirtual 98, 3) := by decide +kernel
theorem dJ8_hugeLength_7cf53_37 : decode cJ8_hugeLength_7cf53 37 = .ok (.ldc 210, 2) := by decide +kernel
theorem dJ8_hugeLength_7cf53_39 : decode cJ8_hugeLength_7cf53 39 = .ok (.invokevirtual 94, 3) := by decide +kernel
theorem dJ8_hugeLength_7cf53_42 : decode cJ8_hugeLength_7cf53 42 = .ok (.invokevirtual 101, 3) := by decide +kernel
theorem dJ8_hugeLength_7cf53_45 : decode cJ8_hugeLength_7cf53 45 = .ok (.invokespecial 212, 3) := by decide +kernel
theorem dJ8_hugeLength_7cf53_48 : decode cJ8_hugeLength_7cf53 48 = .ok (.athrow, 1) := by decide +kernel
theorem dJ8_hugeLength_7cf53_49 : decode cJ8_hugeLength_7cf53 49 = .ok (.iload_n 2, 1) := by decide +kernel
theorem dJ8_hugeLength_7cf53_50 : decode cJ8_hugeLength_7cf53 50 = .ok (.ldc 200, 2) := by decide +kernel
theorem dJ8_hugeLength_7cf53_52 : decode cJ8_hugeLength_7cf53 52 = .ok (.if_icmp .gt 6, 3) := by decide +kernel
theorem dJ8_hugeLength_7cf53_55 : decode cJ8_hugeLength_7cf53 55 = .ok (.ldc 200, 2) := by decide +kernel
theorem dJ8_hugeLength_7cf53_57 : decode cJ8_hugeLength_7cf53 57 = .ok (.ireturn, 1) := by decide +kernel
theorem dJ8_hugeLength_7cf53_58 : decode cJ8_hugeLength_7cf53 58 = .ok (.iload_n 2, 1) := by decide +kernel
theorem dJ8_hugeLength_7cf53_59 : decode cJ8_hugeLength_7cf53 59 = .ok (.ireturn, 1) := by decide +kernel
theorem dJ3_checkIndex_8e157_0 : decode cJ3_checkIndex_8e157 0 = .ok (.iload_n 0, 1) := by decide +kernel
theorem dJ3_checkIndex_8e157_1 : decode cJ3_checkIndex_8e157 1 = .ok (.ifCond .lt 8, 3) := by decide +kernel
theorem dJ3_checkIndex_8e157_4 : decode cJ3_checkIndex_8e157 4 = .ok (.iload_n 0, 1) := by decide +kernel
theorem dJ3_checkIndex_8e157_5 : decode cJ3_checkIndex_8e157 5 = .ok (.iload_n 1, 1) := by decide +kernel
theorem dJ3_checkIndex_8e157_6 : decode cJ3_checkIndex_8e157 6 = .ok (.if_icmp .lt 10, 3) := by decide +kernel
theorem dJ3_checkIndex_8e157_9 : decode cJ3_checkIndex_8e157 9 = .ok (.aload_n 2, 1) := by decide +kernel
theorem dJ3_checkIndex_8e157_10 : decode cJ3_checkIndex_8e157 10 = .ok (.iload_n 0, 1) := by decide +kernel
theorem dJ3_checkIndex_8e157_11 : decode cJ3_checkIndex_8e157 11 = .ok (.iload_n 1, 1) := by decide +kernel
theorem dJ3_checkIndex_8e157_12 : decode cJ3_checkIndex_8e157 12 = .ok (.invokestatic 95, 3) := by decide +kernel
theorem dJ3_checkIndex_8e157_15 : decode cJ3_checkIndex_8e157 15 = .ok (.athrow, 1) := by decide +kernel
theorem dJ3_checkIndex_8e157_16 : decode cJ3_checkIndex_8e157 16 = .ok (.iload_n 0, 1) := by decide +kernel
theorem dJ3_checkIndex_8e157_17 : decode cJ3_checkIndex_8e157 17 = .ok (.ireturn, 1) := by decide +kernel
theorem dL_type_0 : decode cL_type 0 = .ok (.aload 4, 2) := by decide +kernel
theorem dL_type_2 : decode cL_type 2 = .ok (.iconst 0, 1) := by decide +kernel
theorem dL_type_3 : decode cL_type 3 = .ok (.aload_n 0, 1) := by decide +kernel
theorem dL_type_4 : decode cL_type 4 = .ok (.iload_n 1, 1) := by decide +kernel
theorem dL_type_5 : decode cL_type 5 = .ok (.iload_n 2, 1) := by decide +kernel
theorem dL_type_6 : decode cL_type 6 = .ok (.iload_n 3, 1) := by decide +kernel
theorem dL_type_7 : decode cL_type 7 = .ok (.invokevirtual 7, 3) := by decide +kernel
theorem dL_type_10 : decode cL_type 10 = .ok (.i2l, 1) := by decide +kernel
theorem dL_type_11 : decode cL_type 11 = .ok (.lastore, 1) := by decide +kernel
theorem dL_type_12 : decode cL_type 12 = .ok (.goto 15, 3) := by decide +kernel
theorem dL_type_15 : decode cL_type 15 = .ok (.astore 5, 2) := by decide +kernel
theorem dL_type_17 : decode cL_type 17 = .ok (.iconst 1, 1) := by decide +kernel
theorem dL_type_18 : decode cL_type 18 = .ok (.ireturn, 1) := by decide +kernel
theorem dL_type_19 : decode cL_type 19 = .ok (.astore 5, 2) := by decide +kernel
theorem dL_type_21 : decode cL_type 21 = .ok (.iconst 2, 1) := by decide +kernel
theorem dL_type_22 : decode cL_type 22 = .ok (.ireturn, 1) := by decide +kernel
theorem dL_type_23 : decode cL_type 23 = .ok (.astore 5, 2) := by decide +kernel
theorem dL_type_25 : decode cL_type 25 = .ok (.iconst 3, 1) := by decide +kernel
theorem dL_type_26 : decode cL_type 26 = .ok (.ireturn, 1) := by decide +kernel
theorem dL_type_27 : decode cL_type 27 = .ok (.iconst 0, 1) := by decide +kernel
theorem dL_type_28 : decode cL_type 28 = .ok (.ireturn, 1) := by decide +kernel
theorem dL_leaf_0 : decode cL_leaf 0 = .ok (.aload_n 3, 1) := by decide +kernel
theorem dL_leaf_1 : decode cL_leaf 1 = .ok (.iconst 0, 1) := by decide +kernel
theorem dL_leaf_2 : decode cL_leaf 2 = .ok (.aload_n 0, 1) := by decide +kernel
theorem dL_leaf_3 : decode cL_leaf 3 = .ok (.iload_n 1, 1) := by decide +kernel
theorem dL_leaf_4 : decode cL_leaf 4 = .ok (.iload_n 2, 1) := by decide +kernel
theorem dL_leaf_5 : decode cL_leaf 5 = .ok (.invokevirtual 19, 3) := by decide +kernel
theorem dL_leaf_8 : decode cL_leaf 8 = .ok (.i2l, 1) := by decide +kernel
theorem dL_leaf_9 : decode cL_leaf 9 = .ok (.lastore, 1) := by decide +kernel
theorem dL_leaf_10 : decode cL_leaf 10 = .ok (.goto 11, 3) := by decide +kernel
theorem dL_leaf_13 : decode cL_leaf 13 = .ok (.astore 4, 2) := by decide +kernel
theorem dL_leaf_15 : decode cL_leaf 15 = .ok (.iconst 1, 1) := by decide +kernel
theorem dL_leaf_16 : decode cL_leaf 16 = .ok (.ireturn, 1) := by decide +kernel
theorem dL_leaf_17 : decode cL_leaf 17 = .ok (.astore 4, 2) := by decide +kernel
theorem dL_leaf_19 : decode cL_leaf 19 = .ok (.iconst 2, 1) := by decide +kernel
theorem dL_leaf_20 : decode cL_leaf 20 = .ok (.ireturn, 1) := by decide +kernel
theorem dL_leaf_21 : decode cL_leaf 21 = .ok (.iconst 0, 1) := by decide +kernel
theorem dL_leaf_22 : decode cL_leaf 22 = .ok (.ireturn, 1) := by decide +kernel
theorem dL_expression_0 : decode cL_expression 0 = .ok (.aload 5, 2) := by decide +kernel
theorem dL_expression_2 : decode cL_expression 2 = .ok (.iconst 0, 1) := by decide +kernel
theorem dL_expression_3 : decode cL_expression 3 = .ok (.aload_n 0, 1) := by decide +kernel
theorem dL_expression_4 : decode cL_expression 4 = .ok (.iload_n 1, 1) := by decide +kernel
theorem dL_expression_5 : decode cL_expression 5 = .ok (.iload_n 2, 1) := by decide +kernel
theorem dL_expression_6 : decode cL_expression 6 = .ok (.iload_n 3, 1) := by decide +kernel
theorem dL_expression_7 : decode cL_expression 7 = .ok (.iload 4, 2) := by decide +kernel
theorem dL_expression_9 : decode cL_expression 9 = .ok (.invokevirtual 23, 3) := by decide +kernel
theorem dL_expression_12 : decode cL_expression 12 = .ok (.i2l, 1) := by decide +kernel
theorem dL_expression_13 : decode cL_expression 13 = .ok (.lastore, 1) := by decide +kernel
theorem dL_expression_14 : decode cL_expression 14 = .ok (.goto 15, 3) := by decide +kernel
theorem dL_expression_17 : decode cL_expression 17 = .ok (.astore 6, 2) := by decide +kernel
theorem dL_expression_19 : decode cL_expression 19 = .ok (.iconst 1, 1) := by decide +kernel
theorem dL_expression_20 : decode cL_expression 20 = .ok (.ireturn, 1) := by decide +kernel
theorem dL_expression_21 : decode cL_expression 21 = .ok (.astore 6, 2) := by decide +kernel
theorem dL_expression_23 : decode cL_expression 23 = .ok (.iconst 2, 1) := by decide +kernel
theorem dL_expression_24 : decode cL_expression 24 = .ok (.ireturn, 1) := by decide +kernel
theorem dL_expression_25 : decode cL_expression 25 = .ok (.astore 6, 2) := by decide +kernel
theorem dL_expression_27 : decode cL_expression 27 = .ok (.iconst 3, 1) := by decide +kernel
theorem dL_expression_28 : decode cL_expression 28 = .ok (.ireturn, 1) := by decide +kernel
theorem dL_expression_29 : decode cL_expression 29 = .ok (.iconst 0, 1) := by decide +kernel
theorem dL_expression_30 : decode cL_expression 30 = .ok (.ireturn, 1) := by decide +kernel
theorem dL_unit_0 : decode cL_unit 0 = .ok (.aload_n 1, 1) := by decide +kernel
theorem dL_unit_1 : decode cL_unit 1 = .ok (.iconst 0, 1) := by decide +kernel
theorem dL_unit_2 : decode cL_unit 2 = .ok (.aload_n 0, 1) := by decide +kernel
theorem dL_unit_3 : decode cL_unit 3 = .ok (.invokevirtual 27, 3) := by decide +kernel
theorem dL_unit_6 : decode cL_unit 6 = .ok (.i2l, 1) := by decide +kernel
theorem dL_unit_7 : decode cL_unit 7 = .ok (.lastore, 1) := by decide +kernel
theorem dL_unit_8 : decode cL_unit 8 = .ok (.goto 6, 3) := by decide +kernel
theorem dL_unit_11 : decode cL_unit 11 = .ok (.astore_n 2, 1) := by decide +kernel
theorem dL_unit_12 : decode cL_unit 12 = .ok (.iconst 1, 1) := by decide +kernel
theorem dL_unit_13 : decode cL_unit 13 = .ok (.ireturn, 1) := by decide +kernel
theorem dL_unit_14 : decode cL_unit 14 = .ok (.iconst 0, 1) := by decide +kernel
theorem dL_unit_15 : decode cL_unit 15 = .ok (.ireturn, 1) := by decide +kernel
theorem dL_version_0 : decode cL_version 0 = .ok (.aload_n 2, 1) := by decide +kernel
theorem dL_version_1 : decode cL_version 1 = .ok (.iconst 0, 1) := by decide +kernel
theorem dL_version_2 : decode cL_version 2 = .ok (.aload_n 0, 1) := by decide +kernel
theorem dL_version_3 : decode cL_version 3 = .ok (.iload_n 1, 1) := by decide +kernel
theorem dL_version_4 : decode cL_version 4 = .ok (.invokevirtual 31, 3) := by decide +kernel
theorem dL_version_7 : decode cL_version 7 = .ok (.i2l, 1) := by decide +kernel
theorem dL_version_8 : decode cL_version 8 = .ok (.lastore, 1) := by decide +kernel
theorem dL_version_9 : decode cL_version 9 = .ok (.goto 9, 3) := by decide +kernel
theorem dL_version_12 : decode cL_version 12 = .ok (.astore_n 3, 1) := by decide +kernel
theorem dL_version_13 : decode cL_version 13 = .ok (.iconst 1, 1) := by decide +kernel
theorem dL_version_14 : decode cL_version 14 = .ok (.ireturn, 1) := by decide +kernel
theorem dL_version_15 : decode cL_version 15 = .ok (.astore_n 3, 1) := by decide +kernel
theorem dL_version_16 : decode cL_version 16 = .ok (.iconst 2, 1) := by decide +kernel
theorem dL_version_17 : decode cL_version 17 = .ok (.ireturn, 1) := by decide +kernel
theorem dL_version_18 : decode cL_version 18 = .ok (.iconst 0, 1) := by decide +kernel
theorem dL_version_19 : decode cL_version 19 = .ok (.ireturn, 1) := by decide +kernel
theorem dL_setType_0 : decode cL_setType 0 = .ok (.aload_n 0, 1) := by decide +kernel
theorem dL_setType_1 : decode cL_setType 1 = .ok (.iload_n 1, 1) := by decide +kernel
theorem dL_setType_2 : decode cL_setType 2 = .ok (.iload_n 2, 1) := by decide +kernel
theorem dL_setType_3 : decode cL_setType 3 = .ok (.iload_n 3, 1) := by decide +kernel
theorem dL_setType_4 : decode cL_setType 4 = .ok (.invokevirtual 35, 3) := by decide +kernel
theorem dL_setType_7 : decode cL_setType 7 = .ok (.goto 11, 3) := by decide +kernel
theorem dL_setType_10 : decode cL_setType 10 = .ok (.astore 4, 2) := by decide +kernel
theorem dL_setType_12 : decode cL_setType 12 = .ok (.iconst 1, 1) := by decide +kernel
theorem dL_setType_13 : decode cL_setType 13 = .ok (.ireturn, 1) := by decide +kernel
theorem dL_setType_14 : decode cL_setType 14 = .ok (.astore 4, 2) := by decide +kernel
theorem dL_setType_16 : decode cL_setType 16 = .ok (.iconst 2, 1) := by decide +kernel
theorem dL_setType_17 : decode cL_setType 17 = .ok (.ireturn, 1) := by decide +kernel
theorem dL_setType_18 : decode cL_setType 18 = .ok (.iconst 0, 1) := by decide +kernel
theorem dL_setType_19 : decode cL_setType 19 = .ok (.ireturn, 1) := by decide +kernel
theorem dL_setValue_0 : decode cL_setValue 0 = .ok (.aload_n 0, 1) := by decide +kernel
theorem dL_setValue_1 : decode cL_setValue 1 = .ok (.iload_n 1, 1) := by decide +kernel
theorem dL_setValue_2 : decode cL_setValue 2 = .ok (.iload_n 2, 1) := by decide +kernel
theorem dL_setValue_3 : decode cL_setValue 3 = .ok (.iload_n 3, 1) := by decide +kernel
theorem dL_setValue_4 : decode cL_setValue 4 = .ok (.iload 4, 2) := by decide +kernel
theorem dL_setValue_6 : decode cL_setValue 6 = .ok (.iload 5, 2) := by decide +kernel
theorem dL_setValue_8 : decode cL_setValue 8 = .ok (.invokevirtual 39, 3) := by decide +kernel
theorem dL_setValue_11 : decode cL_setValue 11 = .ok (.goto 11, 3) := by decide +kernel
theorem dL_setValue_14 : decode cL_setValue 14 = .ok (.astore 6, 2) := by decide +kernel
theorem dL_setValue_16 : decode cL_setValue 16 = .ok (.iconst 1, 1) := by decide +kernel
theorem dL_setValue_17 : decode cL_setValue 17 = .ok (.ireturn, 1) := by decide +kernel
theorem dL_setValue_18 : decode cL_setValue 18 = .ok (.astore 6, 2) := by decide +kernel
theorem dL_setValue_20 : decode cL_setValue 20 = .ok (.iconst 2, 1) := by decide +kernel
theorem dL_setValue_21 : decode cL_setValue 21 = .ok (.ireturn, 1) := by decide +kernel
theorem dL_setValue_22 : decode cL_setValue 22 = .ok (.iconst 0, 1) := by decide +kernel
theorem dL_setValue_23 : decode cL_setValue 23 = .ok (.ireturn, 1) := by decide +kernel
theorem dL_remove_0 : decode cL_remove 0 = .ok (.aload_n 3, 1) := by decide +kernel
theorem dL_remove_1 : decode cL_remove 1 = .ok (.iconst 0, 1) := by decide +kernel
theorem dL_remove_2 : decode cL_remove 2 = .ok (.aload_n 0, 1) := by decide +kernel
theorem dL_remove_3 : decode cL_remove 3 = .ok (.iload_n 1, 1) := by decide +kernel
theorem dL_remove_4 : decode cL_remove 4 = .ok (.iload_n 2, 1) := by decide +kernel
theorem dL_remove_5 : decode cL_remove 5 = .ok (.invokevirtual 43, 3) := by decide +kernel
theorem dL_remove_8 : decode cL_remove 8 = .ok (.ifCond .eq 7, 3) := by decide +kernel
theorem dL_remove_11 : decode cL_remove 11 = .ok (.lconst 1, 1) := by decide +kernel
theorem dL_remove_12 : decode cL_remove 12 = .ok (.goto 4, 3) := by decide +kernel
theorem dL_remove_15 : decode cL_remove 15 = .ok (.lconst 0, 1) := by decide +kernel
theorem dL_remove_16 : decode cL_remove 16 = .ok (.lastore, 1) := by decide +kernel
theorem dL_remove_17 : decode cL_remove 17 = .ok (.goto 11, 3) := by decide +kernel
theorem dL_remove_20 : decode cL_remove 20 = .ok (.astore 4, 2) := by decide +kernel
theorem dL_remove_22 : decode cL_remove 22 = .ok (.iconst 1, 1) := by decide +kernel
theorem dL_remove_23 : decode cL_remove 23 = .ok (.ireturn, 1) := by decide +kernel
theorem dL_remove_24 : decode cL_remove 24 = .ok (.astore 4, 2) := by decide +kernel
theorem dL_remove_26 : decode cL_remove 26 = .ok (.iconst 2, 1) := by decide +kernel
theorem dL_remove_27 : decode cL_remove 27 = .ok (.ireturn, 1) := by decide +kernel
theorem dL_remove_28 : decode cL_remove 28 = .ok (.iconst 0, 1) := by decide +kernel
theorem dL_remove_29 : decode cL_remove 29 = .ok (.ireturn, 1) := by decide +kernel
theorem dL_unitNode_0 : decode cL_unitNode 0 = .ok (.aload_n 3, 1) := by decide +kernel
theorem dL_unitNode_1 : decode cL_unitNode 1 = .ok (.iconst 0, 1) := by decide +kernel
theorem dL_unitNode_2 : decode cL_unitNode 2 = .ok (.aload_n 0, 1) := by decide +kernel
theorem dL_unitNode_3 : decode cL_unitNode 3 = .ok (.iload_n 1, 1) := by decide +kernel
theorem dL_unitNode_4 : decode cL_unitNode 4 = .ok (.iload_n 2, 1) := by decide +kernel
theorem dL_unitNode_5 : decode cL_unitNode 5 = .ok (.invokevirtual 47, 3) := by decide +kernel
theorem dL_unitNode_8 : decode cL_unitNode 8 = .ok (.i2l, 1) := by decide +kernel
theorem dL_unitNode_9 : decode cL_unitNode 9 = .ok (.lastore, 1) := by decide +kernel
theorem dL_unitNode_10 : decode cL_unitNode 10 = .ok (.goto 11, 3) := by decide +kernel
theorem dL_unitNode_13 : decode cL_unitNode 13 = .ok (.astore 4, 2) := by decide +kernel
theorem dL_unitNode_15 : decode cL_unitNode 15 = .ok (.iconst 1, 1) := by decide +kernel
theorem dL_unitNode_16 : decode cL_unitNode 16 = .ok (.ireturn, 1) := by decide +kernel
theorem dL_unitNode_17 : decode cL_unitNode 17 = .ok (.astore 4, 2) := by decide +kernel
theorem dL_unitNode_19 : decode cL_unitNode 19 = .ok (.iconst 2, 1) := by decide +kernel
theorem dL_unitNode_20 : decode cL_unitNode 20 = .ok (.ireturn, 1) := by decide +kernel
theorem dL_unitNode_21 : decode cL_unitNode 21 = .ok (.iconst 0, 1) := by decide +kernel
theorem dL_unitNode_22 : decode cL_unitNode 22 = .ok (.ireturn, 1) := by decide +kernel
theorem dL_node_0 : decode cL_node 0 = .ok (.aload 5, 2) := by decide +kernel
theorem dL_node_2 : decode cL_node 2 = .ok (.iconst 0, 1) := by decide +kernel
theorem dL_node_3 : decode cL_node 3 = .ok (.aload_n 0, 1) := by decide +kernel
theorem dL_node_4 : decode cL_node 4 = .ok (.iload_n 1, 1) := by decide +kernel
theorem dL_node_5 : decode cL_node 5 = .ok (.iload_n 2, 1) := by decide +kernel
theorem dL_node_6 : decode cL_node 6 = .ok (.iload_n 3, 1) := by decide +kernel
theorem dL_node_7 : decode cL_node 7 = .ok (.iload 4, 2) := by decide +kernel
theorem dL_node_9 : decode cL_node 9 = .ok (.invokevirtual 51, 3) := by decide +kernel
theorem dL_node_12 : decode cL_node 12 = .ok (.i2l, 1) := by decide +kernel
theorem dL_node_13 : decode cL_node 13 = .ok (.lastore, 1) := by decide +kernel
theorem dL_node_14 : decode cL_node 14 = .ok (.goto 15, 3) := by decide +kernel
theorem dL_node_17 : decode cL_node 17 = .ok (.astore 6, 2) := by decide +kernel
theorem dL_node_19 : decode cL_node 19 = .ok (.iconst 1, 1) := by decide +kernel
theorem dL_node_20 : decode cL_node 20 = .ok (.ireturn, 1) := by decide +kernel
theorem dL_node_21 : decode cL_node 21 = .ok (.astore 6, 2) := by decide +kernel
theorem dL_node_23 : decode cL_node 23 = .ok (.iconst 2, 1) := by decide +kernel
theorem dL_node_24 : decode cL_node 24 = .ok (.ireturn, 1) := by decide +kernel
theorem dL_node_25 : decode cL_node 25 = .ok (.astore 6, 2) := by decide +kernel
theorem dL_node_27 : decode cL_node 27 = .ok (.iconst 3, 1) := by decide +kernel
theorem dL_node_28 : decode cL_node 28 = .ok (.ireturn, 1) := by decide +kernel
theorem dL_node_29 : decode cL_node 29 = .ok (.iconst 0, 1) := by decide +kernel
theorem dL_node_30 : decode cL_node 30 = .ok (.ireturn, 1) := by decide +kernel
theorem dL_choose_0 : decode cL_choose 0 = .ok (.aload 4, 2) := by decide +kernel
theorem dL_choose_2 : decode cL_choose 2 = .ok (.iconst 0, 1) := by decide +kernel
theorem dL_choose_3 : decode cL_choose 3 = .ok (.aload_n 0, 1) := by decide +kernel
theorem dL_choose_4 : decode cL_choose 4 = .ok (.iload_n 1, 1) := by decide +kernel
theorem dL_choose_5 : decode cL_choose 5 = .ok (.iload_n 2, 1) := by decide +kernel
theorem dL_choose_6 : decode cL_choose 6 = .ok (.iload_n 3, 1) := by decide +kernel
theorem dL_choose_7 : decode cL_choose 7 = .ok (.invokevirtual 55, 3) := by decide +kernel
theorem dL_choose_10 : decode cL_choose 10 = .ok (.i2l, 1) := by decide +kernel
theorem dL_choose_11 : decode cL_choose 11 = .ok (.lastore, 1) := by decide +kernel
theorem dL_choose_12 : decode cL_choose 12 = .ok (.goto 11, 3) := by decide +kernel
theorem dL_choose_15 : decode cL_choose 15 = .ok (.astore 5, 2) := by decide +kernel
theorem dL_choose_17 : decode cL_choose 17 = .ok (.iconst 1, 1) := by decide +kernel
theorem dL_choose_18 : decode cL_choose 18 = .ok (.ireturn, 1) := by decide +kernel
theorem dL_choose_19 : decode cL_choose 19 = .ok (.astore 5, 2) := by decide +kernel
theorem dL_choose_21 : decode cL_choose 21 = .ok (.iconst 2, 1) := by decide +kernel
theorem dL_choose_22 : decode cL_choose 22 = .ok (.ireturn, 1) := by decide +kernel
theorem dL_choose_23 : decode cL_choose 23 = .ok (.iconst 0, 1) := by decide +kernel
theorem dL_choose_24 : decode cL_choose 24 = .ok (.ireturn, 1) := by decide +kernel
theorem dL_rename_0 : decode cL_rename 0 = .ok (.aload 4, 2) := by decide +kernel
theorem dL_rename_2 : decode cL_rename 2 = .ok (.iconst 0, 1) := by decide +kernel
theorem dL_rename_3 : decode cL_rename 3 = .ok (.aload_n 0, 1) := by decide +kernel
theorem dL_rename_4 : decode cL_rename 4 = .ok (.iload_n 1, 1) := by decide +kernel
theorem dL_rename_5 : decode cL_rename 5 = .ok (.iload_n 2, 1) := by decide +kernel
theorem dL_rename_6 : decode cL_rename 6 = .ok (.iload_n 3, 1) := by decide +kernel
theorem dL_rename_7 : decode cL_rename 7 = .ok (.invokevirtual 58, 3) := by decide +kernel
theorem dL_rename_10 : decode cL_rename 10 = .ok (.i2l, 1) := by decide +kernel
theorem dL_rename_11 : decode cL_rename 11 = .ok (.lastore, 1) := by decide +kernel
theorem dL_rename_12 : decode cL_rename 12 = .ok (.goto 15, 3) := by decide +kernel
theorem dL_rename_15 : decode cL_rename 15 = .ok (.astore 5, 2) := by decide +kernel
theorem dL_rename_17 : decode cL_rename 17 = .ok (.iconst 1, 1) := by decide +kernel
theorem dL_rename_18 : decode cL_rename 18 = .ok (.ireturn, 1) := by decide +kernel
theorem dL_rename_19 : decode cL_rename 19 = .ok (.astore 5, 2) := by decide +kernel
theorem dL_rename_21 : decode cL_rename 21 = .ok (.iconst 2, 1) := by decide +kernel
theorem dL_rename_22 : decode cL_rename 22 = .ok (.ireturn, 1) := by decide +kernel
theorem dL_rename_23 : decode cL_rename 23 = .ok (.astore 5, 2) := by decide +kernel
theorem dL_rename_25 : decode cL_rename 25 = .ok (.iconst 3, 1) := by decide +kernel
theorem dL_rename_26 : decode cL_rename 26 = .ok (.ireturn, 1) := by decide +kernel
theorem dL_rename_27 : decode cL_rename 27 = .ok (.iconst 0, 1) := by decide +kernel
theorem dL_rename_28 : decode cL_rename 28 = .ok (.ireturn, 1) := by decide +kernel
theorem dL_error_0 : decode cL_error 0 = .ok (.aload_n 2, 1) := by decide +kernel
theorem dL_error_1 : decode cL_error 1 = .ok (.iconst 0, 1) := by decide +kernel
theorem dL_error_2 : decode cL_error 2 = .ok (.aload_n 0, 1) := by decide +kernel
theorem dL_error_3 : decode cL_error 3 = .ok (.iload_n 1, 1) := by decide +kernel
theorem dL_error_4 : decode cL_error 4 = .ok (.invokevirtual 61, 3) := by decide +kernel
theorem dL_error_7 : decode cL_error 7 = .ok (.i2l, 1) := by decide +kernel
theorem dL_error_8 : decode cL_error 8 = .ok (.lastore, 1) := by decide +kernel
theorem dL_error_9 : decode cL_error 9 = .ok (.goto 6, 3) := by decide +kernel
theorem dL_error_12 : decode cL_error 12 = .ok (.astore_n 3, 1) := by decide +kernel
theorem dL_error_13 : decode cL_error 13 = .ok (.iconst 1, 1) := by decide +kernel
theorem dL_error_14 : decode cL_error 14 = .ok (.ireturn, 1) := by decide +kernel
theorem dL_error_15 : decode cL_error 15 = .ok (.iconst 0, 1) := by decide +kernel
theorem dL_error_16 : decode cL_error 16 = .ok (.ireturn, 1) := by decide +kernel
theorem dL_typeOf_0 : decode cL_typeOf 0 = .ok (.aload_n 3, 1) := by decide +kernel
theorem dL_typeOf_1 : decode cL_typeOf 1 = .ok (.iconst 0, 1) := by decide +kernel
theorem dL_typeOf_2 : decode cL_typeOf 2 = .ok (.aload_n 0, 1) := by decide +kernel
theorem dL_typeOf_3 : decode cL_typeOf 3 = .ok (.iload_n 1, 1) := by decide +kernel
theorem dL_typeOf_4 : decode cL_typeOf 4 = .ok (.iload_n 2, 1) := by decide +kernel
theorem dL_typeOf_5 : decode cL_typeOf 5 = .ok (.invokevirtual 64, 3) := by decide +kernel
theorem dL_typeOf_8 : decode cL_typeOf 8 = .ok (.i2l, 1) := by decide +kernel
theorem dL_typeOf_9 : decode cL_typeOf 9 = .ok (.lastore, 1) := by decide +kernel
theorem dL_typeOf_10 : decode cL_typeOf 10 = .ok (.goto 15, 3) := by decide +kernel
theorem dL_typeOf_13 : decode cL_typeOf 13 = .ok (.astore 4, 2) := by decide +kernel
theorem dL_typeOf_15 : decode cL_typeOf 15 = .ok (.iconst 1, 1) := by decide +kernel
theorem dL_typeOf_16 : decode cL_typeOf 16 = .ok (.ireturn, 1) := by decide +kernel
theorem dL_typeOf_17 : decode cL_typeOf 17 = .ok (.astore 4, 2) := by decide +kernel
theorem dL_typeOf_19 : decode cL_typeOf 19 = .ok (.iconst 2, 1) := by decide +kernel
theorem dL_typeOf_20 : decode cL_typeOf 20 = .ok (.ireturn, 1) := by decide +kernel
theorem dL_typeOf_21 : decode cL_typeOf 21 = .ok (.astore 4, 2) := by decide +kernel
theorem dL_typeOf_23 : decode cL_typeOf 23 = .ok (.iconst 3, 1) := by decide +kernel
theorem dL_typeOf_24 : decode cL_typeOf 24 = .ok (.ireturn, 1) := by decide +kernel
theorem dL_typeOf_25 : decode cL_typeOf 25 = .ok (.iconst 0, 1) := by decide +kernel
theorem dL_typeOf_26 : decode cL_typeOf 26 = .ok (.ireturn, 1) := by decide +kernel
theorem dL_isSameType_0 : decode cL_isSameType 0 = .ok (.aload 5, 2) := by decide +kernel
theorem dL_isSameType_2 : decode cL_isSameType 2 = .ok (.iconst 0, 1) := by decide +kernel
theorem dL_isSameType_3 : decode cL_isSameType 3 = .ok (.aload_n 0, 1) := by decide +kernel
theorem dL_isSameType_4 : decode cL_isSameType 4 = .ok (.iload_n 1, 1) := by decide +kernel
theorem dL_isSameType_5 : decode cL_isSameType 5 = .ok (.iload_n 2, 1) := by decide +kernel
theorem dL_isSameType_6 : decode cL_isSameType 6 = .ok (.iload_n 3, 1) := by decide +kernel
theorem dL_isSameType_7 : decode cL_isSameType 7 = .ok (.iload 4, 2) := by decide +kernel
theorem dL_isSameType_9 : decode cL_isSameType 9 = .ok (.invokevirtual 67, 3) := by decide +kernel
theorem dL_isSameType_12 : decode cL_isSameType 12 = .ok (.ifCond .eq 7, 3) := by decide +kernel
theorem dL_isSameType_15 : decode cL_isSameType 15 = .ok (.lconst 1, 1) := by decide +kernel
theorem dL_isSameType_16 : decode cL_isSameType 16 = .ok (.goto 4, 3) := by decide +kernel
theorem dL_isSameType_19 : decode cL_isSameType 19 = .ok (.lconst 0, 1) := by decide +kernel
theorem dL_isSameType_20 : decode cL_isSameType 20 = .ok (.lastore, 1) := by decide +kernel
theorem dL_isSameType_21 : decode cL_isSameType 21 = .ok (.goto 15, 3) := by decide +kernel
theorem dL_isSameType_24 : decode cL_isSameType 24 = .ok (.astore 6, 2) := by decide +kernel
theorem dL_isSameType_26 : decode cL_isSameType 26 = .ok (.iconst 1, 1) := by decide +kernel
theorem dL_isSameType_27 : decode cL_isSameType 27 = .ok (.ireturn, 1) := by decide +kernel
theorem dL_isSameType_28 : decode cL_isSameType 28 = .ok (.astore 6, 2) := by decide +kernel
theorem dL_isSameType_30 : decode cL_isSameType 30 = .ok (.iconst 2, 1) := by decide +kernel
theorem dL_isSameType_31 : decode cL_isSameType 31 = .ok (.ireturn, 1) := by decide +kernel
theorem dL_isSameType_32 : decode cL_isSameType 32 = .ok (.astore 6, 2) := by decide +kernel
theorem dL_isSameType_34 : decode cL_isSameType 34 = .ok (.iconst 3, 1) := by decide +kernel
theorem dL_isSameType_35 : decode cL_isSameType 35 = .ok (.ireturn, 1) := by decide +kernel
theorem dL_isSameType_36 : decode cL_isSameType 36 = .ok (.iconst 0, 1) := by decide +kernel
theorem dL_isSameType_37 : decode cL_isSameType 37 = .ok (.ireturn, 1) := by decide +kernel
theorem dL_valueOf_0 : decode cL_valueOf 0 = .ok (.aload_n 3, 1) := by decide +kernel
theorem dL_valueOf_1 : decode cL_valueOf 1 = .ok (.iconst 0, 1) := by decide +kernel
theorem dL_valueOf_2 : decode cL_valueOf 2 = .ok (.aload_n 0, 1) := by decide +kernel
theorem dL_valueOf_3 : decode cL_valueOf 3 = .ok (.iload_n 1, 1) := by decide +kernel
theorem dL_valueOf_4 : decode cL_valueOf 4 = .ok (.iload_n 2, 1) := by decide +kernel
theorem dL_valueOf_5 : decode cL_valueOf 5 = .ok (.invokevirtual 71, 3) := by decide +kernel
theorem dL_valueOf_8 : decode cL_valueOf 8 = .ok (.i2l, 1) := by decide +kernel
theorem dL_valueOf_9 : decode cL_valueOf 9 = .ok (.lastore, 1) := by decide +kernel
theorem dL_valueOf_10 : decode cL_valueOf 10 = .ok (.goto 15, 3) := by decide +kernel
theorem dL_valueOf_13 : decode cL_valueOf 13 = .ok (.astore 4, 2) := by decide +kernel
theorem dL_valueOf_15 : decode cL_valueOf 15 = .ok (.iconst 1, 1) := by decide +kernel
theorem dL_valueOf_16 : decode cL_valueOf 16 = .ok (.ireturn, 1) := by decide +kernel
theorem dL_valueOf_17 : decode cL_valueOf 17 = .ok (.astore 4, 2) := by decide +kernel
theorem dL_valueOf_19 : decode cL_valueOf 19 = .ok (.iconst 2, 1) := by decide +kernel
theorem dL_valueOf_20 : decode cL_valueOf 20 = .ok (.ireturn, 1) := by decide +kernel
theorem dL_valueOf_21 : decode cL_valueOf 21 = .ok (.astore 4, 2) := by decide +kernel
theorem dL_valueOf_23 : decode cL_valueOf 23 = .ok (.iconst 3, 1) := by decide +kernel
theorem dL_valueOf_24 : decode cL_valueOf 24 = .ok (.ireturn, 1) := by decide +kernel
theorem dL_valueOf_25 : decode cL_valueOf 25 = .ok (.iconst 0, 1) := by decide +kernel
theorem dL_valueOf_26 : decode cL_valueOf 26 = .ok (.ireturn, 1) := by decide +kernel
theorem dL_size_0 : decode cL_size 0 = .ok (.aload_n 3, 1) := by decide +kernel
theorem dL_size_1 : decode cL_size 1 = .ok (.iconst 0, 1) := by decide +kernel
theorem dL_size_2 : decode cL_size 2 = .ok (.aload_n 0, 1) := by decide +kernel
theorem dL_size_3 : decode cL_size 3 = .ok (.iload_n 1, 1) := by decide +kernel
theorem dL_size_4 : decode cL_size 4 = .ok (.iload_n 2, 1) := by decide +kernel
theorem dL_size_5 : decode cL_size 5 = .ok (.invokevirtual 74, 3) := by decide +kernel
theorem dL_size_8 : decode cL_size 8 = .ok (.i2l, 1) := by decide +kernel
theorem dL_size_9 : decode cL_size 9 = .ok (.lastore, 1) := by decide +kernel
theorem dL_size_10 : decode cL_size 10 = .ok (.goto 15, 3) := by decide +kernel
theorem dL_size_13 : decode cL_size 13 = .ok (.astore 4, 2) := by decide +kernel
theorem dL_size_15 : decode cL_size 15 = .ok (.iconst 1, 1) := by decide +kernel
theorem dL_size_16 : decode cL_size 16 = .ok (.ireturn, 1) := by decide +kernel
theorem dL_size_17 : decode cL_size 17 = .ok (.astore 4, 2) := by decide +kernel
theorem dL_size_19 : decode cL_size 19 = .ok (.iconst 2, 1) := by decide +kernel
theorem dL_size_20 : decode cL_size 20 = .ok (.ireturn, 1) := by decide +kernel
theorem dL_size_21 : decode cL_size 21 = .ok (.astore 4, 2) := by decide +kernel
theorem dL_size_23 : decode cL_size 23 = .ok (.iconst 3, 1) := by decide +kernel
theorem dL_size_24 : decode cL_size 24 = .ok (.ireturn, 1) := by decide +kernel
theorem dL_size_25 : decode cL_size 25 = .ok (.iconst 0, 1) := by decide +kernel
theorem dL_size_26 : decode cL_size 26 = .ok (.ireturn, 1) := by decide +kernel
theorem dL_run_0 : decode cL_run 0 = .ok (.aload_n 2, 1) := by decide +kernel
theorem dL_run_1 : decode cL_run 1 = .ok (.iconst 0, 1) := by decide +kernel
theorem dL_run_2 : decode cL_run 2 = .ok (.aload_n 0, 1) := by decide +kernel
theorem dL_run_3 : decode cL_run 3 = .ok (.iload_n 1, 1) := by decide +kernel
theorem dL_run_4 : decode cL_run 4 = .ok (.invokevirtual 77, 3) := by decide +kernel
theorem dL_run_7 : decode cL_run 7 = .ok (.i2l, 1) := by decide +kernel
theorem dL_run_8 : decode cL_run 8 = .ok (.lastore, 1) := by decide +kernel
theorem dL_run_9 : decode cL_run 9 = .ok (.goto 6, 3) := by decide +kernel
theorem dL_run_12 : decode cL_run 12 = .ok (.astore_n 3, 1) := by decide +kernel
theorem dL_run_13 : decode cL_run 13 = .ok (.iconst 1, 1) := by decide +kernel
theorem dL_run_14 : decode cL_run 14 = .ok (.ireturn, 1) := by decide +kernel
theorem dL_run_15 : decode cL_run 15 = .ok (.iconst 0, 1) := by decide +kernel
theorem dL_run_16 : decode cL_run 16 = .ok (.ireturn, 1) := by decide +kernel
theorem dL_result_0 : decode cL_result 0 = .ok (.aload_n 3, 1) := by decide +kernel
theorem dL_result_1 : decode cL_result 1 = .ok (.iconst 0, 1) := by decide +kernel
theorem dL_result_2 : decode cL_result 2 = .ok (.aload_n 0, 1) := by decide +kernel
theorem dL_result_3 : decode cL_result 3 = .ok (.iload_n 1, 1) := by decide +kernel
theorem dL_result_4 : decode cL_result 4 = .ok (.iload_n 2, 1) := by decide +kernel
theorem dL_result_5 : decode cL_result 5 = .ok (.invokevirtual 80, 3) := by decide +kernel
theorem dL_result_8 : decode cL_result 8 = .ok (.i2l, 1) := by decide +kernel
theorem dL_result_9 : decode cL_result 9 = .ok (.lastore, 1) := by decide +kernel
theorem dL_result_10 : decode cL_result 10 = .ok (.goto 15, 3) := by decide +kernel
theorem dL_result_13 : decode cL_result 13 = .ok (.astore 4, 2) := by decide +kernel
theorem dL_result_15 : decode cL_result 15 = .ok (.iconst 1, 1) := by decide +kernel
theorem dL_result_16 : decode cL_result 16 = .ok (.ireturn, 1) := by decide +kernel
theorem dL_result_17 : decode cL_result 17 = .ok (.astore 4, 2) := by decide +kernel
theorem dL_result_19 : decode cL_result 19 = .ok (.iconst 2, 1) := by decide +kernel
theorem dL_result_20 : decode cL_result 20 = .ok (.ireturn, 1) := by decide +kernel
theorem dL_result_21 : decode cL_result 21 = .ok (.astore 4, 2) := by decide +kernel
theorem dL_result_23 : decode cL_result 23 = .ok (.iconst 3, 1) := by decide +kernel
theorem dL_result_24 : decode cL_result 24 = .ok (.ireturn, 1) := by decide +kernel
theorem dL_result_25 : decode cL_result 25 = .ok (.iconst 0, 1) := by decide +kernel
theorem dL_result_26 : decode cL_result 26 = .ok (.ireturn, 1) := by decide +kernel
theorem dL_log_0 : decode cL_log 0 = .ok (.aload_n 2, 1) := by decide +kernel
theorem dL_log_1 : decode cL_log 1 = .ok (.iconst 0, 1) := by decide +kernel
theorem dL_log_2 : decode cL_log 2 = .ok (.aload_n 0, 1) := by decide +kernel
theorem dL_log_3 : decode cL_log 3 = .ok (.iload_n 1, 1) := by decide +kernel
theorem dL_log_4 : decode cL_log 4 = .ok (.invokevirtual 83, 3) := by decide +kernel
theorem dL_log_7 : decode cL_log 7 = .ok (.i2l, 1) := by decide +kernel
theorem dL_log_8 : decode cL_log 8 = .ok (.lastore, 1) := by decide +kernel
theorem dL_log_9 : decode cL_log 9 = .ok (.goto 6, 3) := by decide +kernel
theorem dL_log_12 : decode cL_log 12 = .ok (.astore_n 3, 1) := by decide +kernel
theorem dL_log_13 : decode cL_log 13 = .ok (.iconst 1, 1) := by decide +kernel
theorem dL_log_14 : decode cL_log 14 = .ok (.ireturn, 1) := by decide +kernel
theorem dL_log_15 : decode cL_log 15 = .ok (.iconst 0, 1) := by decide +kernel
theorem dL_log_16 : decode cL_log 16 = .ok (.ireturn, 1) := by decide +kernel
theorem dL_build_0 : decode cL_build 0 = .ok (.aload_n 2, 1) := by decide +kernel
theorem dL_build_1 : decode cL_build 1 = .ok (.iconst 0, 1) := by decide +kernel
theorem dL_build_2 : decode cL_build 2 = .ok (.aload_n 0, 1) := by decide +kernel
theorem dL_build_3 : decode cL_build 3 = .ok (.iload_n 1, 1) := by decide +kernel
theorem dL_build_4 : decode cL_build 4 = .ok (.invokevirtual 86, 3) := by decide +kernel
theorem dL_build_7 : decode cL_build 7 = .ok (.i2l, 1) := by decide +kernel
theorem dL_build_8 : decode cL_build 8 = .ok (.lastore, 1) := by decide +kernel
theorem dL_build_9 : decode cL_build 9 = .ok (.goto 6, 3) := by decide +kernel
theorem dL_build_12 : decode cL_build 12 = .ok (.astore_n 3, 1) := by decide +kernel
theorem dL_build_13 : decode cL_build 13 = .ok (.iconst 1, 1) := by decide +kernel
theorem dL_build_14 : decode cL_build 14 = .ok (.ireturn, 1) := by decide +kernel
theorem dL_build_15 : decode cL_build 15 = .ok (.iconst 0, 1) := by decide +kernel
theorem dL_build_16 : decode cL_build 16 = .ok (.ireturn, 1) := by decide +kernel
theorem dL_compiled_0 : decode cL_compiled 0 = .ok (.aload_n 2, 1) := by decide +kernel
theorem dL_compiled_1 : decode cL_compiled 1 = .ok (.iconst 0, 1) := by decide +kernel
theorem dL_compiled_2 : decode cL_compiled 2 = .ok (.aload_n 0, 1) := by decide +kernel
theorem dL_compiled_3 : decode cL_compiled 3 = .ok (.iload_n 1, 1) := by decide +kernel
theorem dL_compiled_4 : decode cL_compiled 4 = .ok (.invokevirtual 89, 3) := by decide +kernel
theorem dL_compiled_7 : decode cL_compiled 7 = .ok (.i2l, 1) := by decide +kernel
theorem dL_compiled_8 : decode cL_compiled 8 = .ok (.lastore, 1) := by decide +kernel
theorem dL_compiled_9 : decode cL_compiled 9 = .ok (.goto 6, 3) := by decide +kernel
theorem dL_compiled_12 : decode cL_compiled 12 = .ok (.astore_n 3, 1) := by decide +kernel
theorem dL_compiled_13 : decode cL_compiled 13 = .ok (.iconst 1, 1) := by decide +kernel
theorem dL_compiled_14 : decode cL_compiled 14 = .ok (.ireturn, 1) := by decide +kernel
theorem dL_compiled_15 : decode cL_compiled 15 = .ok (.iconst 0, 1) := by decide +kernel
theorem dL_compiled_16 : decode cL_compiled 16 = .ok (.ireturn, 1) := by decide +kernel
theorem dL_isFresh_0 : decode cL_isFresh 0 = .ok (.aload_n 2, 1) := by decide +kernel
theorem dL_isFresh_1 : decode cL_isFresh 1 = .ok (.iconst 0, 1) := by decide +kernel
theorem dL_isFresh_2 : decode cL_isFresh 2 = .ok (.aload_n 0, 1) := by decide +kernel
theorem dL_isFresh_3 : decode cL_isFresh 3 = .ok (.iload_n 1, 1) := by decide +kernel
theorem dL_isFresh_4 : decode cL_isFresh 4 = .ok (.invokevirtual 92, 3) := by decide +kernel
theorem dL_isFresh_7 : decode cL_isFresh 7 = .ok (.ifCond .eq 7, 3) := by decide +kernel
theorem dL_isFresh_10 : decode cL_isFresh 10 = .ok (.lconst 1, 1) := by decide +kernel
theorem dL_isFresh_11 : decode cL_isFresh 11 = .ok (.goto 4, 3) := by decide +kernel
theorem dL_isFresh_14 : decode cL_isFresh 14 = .ok (.lconst 0, 1) := by decide +kernel
theorem dL_isFresh_15 : decode cL_isFresh 15 = .ok (.lastore, 1) := by decide +kernel
theorem dL_isFresh_16 : decode cL_isFresh 16 = .ok (.goto 6, 3) := by decide +kernel
theorem dL_isFresh_19 : decode cL_isFresh 19 = .ok (.astore_n 3, 1) := by decide +kernel
theorem dL_isFresh_20 : decode cL_isFresh 20 = .ok (.iconst 1, 1) := by decide +kernel
theorem dL_isFresh_21 : decode cL_isFresh 21 = .ok (.ireturn, 1) := by decide +kernel
theorem dL_isFresh_22 : decode cL_isFresh 22 = .ok (.iconst 0, 1) := by decide +kernel
theorem dL_isFresh_23 : decode cL_isFresh 23 = .ok (.ireturn, 1) := by decide +kernel
theorem dL_law_0 : decode cL_law 0 = .ok (.new 8, 3) := by decide +kernel
theorem dL_law_3 : decode cL_law 3 = .ok (.dup, 1) := by decide +kernel
theorem dL_law_4 : decode cL_law 4 = .ok (.invokespecial 96, 3) := by decide +kernel
theorem dL_law_7 : decode cL_law 7 = .ok (.astore_n 1, 1) := by decide +kernel
theorem dL_law_8 : decode cL_law 8 = .ok (.new 97, 3) := by decide +kernel
theorem dL_law_11 : decode cL_law 11 = .ok (.dup, 1) := by decide +kernel
theorem dL_law_12 : decode cL_law 12 = .ok (.invokespecial 99, 3) := by decide +kernel
theorem dL_law_15 : decode cL_law 15 = .ok (.astore_n 2, 1) := by decide +kernel
theorem dL_law_16 : decode cL_law 16 = .ok (.iconst 1, 1) := by decide +kernel
theorem dL_law_17 : decode cL_law 17 = .ok (.newarray .long, 2) := by decide +kernel
theorem dL_law_19 : decode cL_law 19 = .ok (.astore_n 3, 1) := by decide +kernel
theorem dL_law_20 : decode cL_law 20 = .ok (.iconst 0, 1) := by decide +kernel
theorem dL_law_21 : decode cL_law 21 = .ok (.istore 4, 2) := by decide +kernel
theorem dL_law_23 : decode cL_law 23 = .ok (.iload 4, 2) := by decide +kernel
theorem dL_law_25 : decode cL_law 25 = .ok (.aload_n 0, 1) := by decide +kernel
theorem dL_law_26 : decode cL_law 26 = .ok (.arraylength, 1) := by decide +kernel
theorem dL_law_27 : decode cL_law 27 = .ok (.bipush 6, 2) := by decide +kernel
theorem dL_law_29 : decode cL_law 29 = .ok (.isub, 1) := by decide +kernel
theorem dL_law_30 : decode cL_law 30 = .ok (.if_icmp .gt 1197, 3) := by decide +kernel
theorem dL_law_33 : decode cL_law 33 = .ok (.aload_n 0, 1) := by decide +kernel
theorem dL_law_34 : decode cL_law 34 = .ok (.iload 4, 2) := by decide +kernel
theorem dL_law_36 : decode cL_law 36 = .ok (.iaload, 1) := by decide +kernel
theorem dL_law_37 : decode cL_law 37 = .ok (.bipush 31, 2) := by decide +kernel
theorem dL_law_39 : decode cL_law 39 = .ok (.iand, 1) := by decide +kernel
theorem dL_law_40 : decode cL_law 40 = .ok (.tableswitch 1181 0 25 #[120, 200, 256, 320, 336, 364, 413, 486, 526, 566, 646, 698, 750, 778, 818, 882, 922, 962, 990, 1030, 1043, 1071, 1084, 1097, 1125, 1153], 120) := by decide +kernel
theorem dL_law_160 : decode cL_law 160 = .ok (.aload_n 1, 1) := by decide +kernel
theorem dL_law_161 : decode cL_law 161 = .ok (.aload_n 0, 1) := by decide +kernel
theorem dL_law_162 : decode cL_law 162 = .ok (.iload 4, 2) := by decide +kernel
theorem dL_law_164 : decode cL_law 164 = .ok (.iconst 1, 1) := by decide +kernel
theorem dL_law_165 : decode cL_law 165 = .ok (.iadd, 1) := by decide +kernel
theorem dL_law_166 : decode cL_law 166 = .ok (.iaload, 1) := by decide +kernel
theorem dL_law_167 : decode cL_law 167 = .ok (.aload_n 0, 1) := by decide +kernel
theorem dL_law_168 : decode cL_law 168 = .ok (.iload 4, 2) := by decide +kernel
theorem dL_law_170 : decode cL_law 170 = .ok (.iconst 2, 1) := by decide +kernel
theorem dL_law_171 : decode cL_law 171 = .ok (.iadd, 1) := by decide +kernel
theorem dL_law_172 : decode cL_law 172 = .ok (.iaload, 1) := by decide +kernel
theorem dL_law_173 : decode cL_law 173 = .ok (.aload_n 0, 1) := by decide +kernel
theorem dL_law_174 : decode cL_law 174 = .ok (.iload 4, 2) := by decide +kernel
theorem dL_law_176 : decode cL_law 176 = .ok (.iconst 3, 1) := by decide +kernel
theorem dL_law_177 : decode cL_law 177 = .ok (.iadd, 1) := by decide +kernel
theorem dL_law_178 : decode cL_law 178 = .ok (.iaload, 1) := by decide +kernel
theorem dL_law_179 : decode cL_law 179 = .ok (.aload_n 3, 1) := by decide +kernel
theorem dL_law_180 : decode cL_law 180 = .ok (.invokestatic 100, 3) := by decide +kernel
theorem dL_law_183 : decode cL_law 183 = .ok (.istore 5, 2) := by decide +kernel
theorem dL_law_185 : decode cL_law 185 = .ok (.aload_n 2, 1) := by decide +kernel
theorem dL_law_186 : decode cL_law 186 = .ok (.aload_n 0, 1) := by decide +kernel
theorem dL_law_187 : decode cL_law 187 = .ok (.iload 4, 2) := by decide +kernel
theorem dL_law_189 : decode cL_law 189 = .ok (.iconst 1, 1) := by decide +kernel
theorem dL_law_190 : decode cL_law 190 = .ok (.iadd, 1) := by decide +kernel
theorem dL_law_191 : decode cL_law 191 = .ok (.iaload, 1) := by decide +kernel
theorem dL_law_192 : decode cL_law 192 = .ok (.aload_n 0, 1) := by decide +kernel
theorem dL_law_193 : decode cL_law 193 = .ok (.iload 4, 2) := by decide +kernel
theorem dL_law_195 : decode cL_law 195 = .ok (.iconst 2, 1) := by decide +kernel
theorem dL_law_196 : decode cL_law 196 = .ok (.iadd, 1) := by decide +kernel
theorem dL_law_197 : decode cL_law 197 = .ok (.iaload, 1) := by decide +kernel
theorem dL_law_198 : decode cL_law 198 = .ok (.aload_n 0, 1) := by decide +kernel
theorem dL_law_199 : decode cL_law 199 = .ok (.iload 4, 2) := by decide +kernel
theorem dL_law_201 : decode cL_law 201 = .ok (.iconst 3, 1) := by decide +kernel
theorem dL_law_202 : decode cL_law 202 = .ok (.iadd, 1) := by decide +kernel
theorem dL_law_203 : decode cL_law 203 = .ok (.iaload, 1) := by decide +kernel
theorem dL_law_204 : decode cL_law 204 = .ok (.invokevirtual 105, 3) := by decide +kernel
theorem dL_law_207 : decode cL_law 207 = .ok (.istore 6, 2) := by decide +kernel
theorem dL_law_209 : decode cL_law 209 = .ok (.aload_n 2, 1) := by decide +kernel
theorem dL_law_210 : decode cL_law 210 = .ok (.invokevirtual 106, 3) := by decide +kernel
theorem dL_law_213 : decode cL_law 213 = .ok (.iload 5, 2) := by decide +kernel
theorem dL_law_215 : decode cL_law 215 = .ok (.if_icmp .eq 5, 3) := by decide +kernel
theorem dL_law_218 : decode cL_law 218 = .ok (.iconst 0, 1) := by decide +kernel
theorem dL_law_219 : decode cL_law 219 = .ok (.ireturn, 1) := by decide +kernel
theorem dL_law_220 : decode cL_law 220 = .ok (.iload 5, 2) := by decide +kernel
theorem dL_law_222 : decode cL_law 222 = .ok (.ifCond .ne 15, 3) := by decide +kernel
theorem dL_law_225 : decode cL_law 225 = .ok (.aload_n 3, 1) := by decide +kernel
theorem dL_law_226 : decode cL_law 226 = .ok (.iconst 0, 1) := by decide +kernel
theorem dL_law_227 : decode cL_law 227 = .ok (.laload, 1) := by decide +kernel
theorem dL_law_228 : decode cL_law 228 = .ok (.iload 6, 2) := by decide +kernel
theorem dL_law_230 : decode cL_law 230 = .ok (.i2l, 1) := by decide +kernel
theorem dL_law_231 : decode cL_law 231 = .ok (.lcmp, 1) := by decide +kernel
theorem dL_law_232 : decode cL_law 232 = .ok (.ifCond .eq 5, 3) := by decide +kernel
theorem dL_law_235 : decode cL_law 235 = .ok (.iconst 0, 1) := by decide +kernel
theorem dL_law_236 : decode cL_law 236 = .ok (.ireturn, 1) := by decide +kernel
theorem dL_law_237 : decode cL_law 237 = .ok (.goto 984, 3) := by decide +kernel
theorem dL_law_240 : decode cL_law 240 = .ok (.aload_n 1, 1) := by decide +kernel
theorem dL_law_241 : decode cL_law 241 = .ok (.aload_n 0, 1) := by decide +kernel
theorem dL_law_242 : decode cL_law 242 = .ok (.iload 4, 2) := by decide +kernel
theorem dL_law_244 : decode cL_law 244 = .ok (.iconst 1, 1) := by decide +kernel
theorem dL_law_245 : decode cL_law 245 = .ok (.iadd, 1) := by decide +kernel
theorem dL_law_246 : decode cL_law 246 = .ok (.iaload, 1) := by decide +kernel
theorem dL_law_247 : decode cL_law 247 = .ok (.ifCond .eq 7, 3) := by decide +kernel
theorem dL_law_250 : decode cL_law 250 = .ok (.iconst 1, 1) := by decide +kernel
theorem dL_law_251 : decode cL_law 251 = .ok (.goto 4, 3) := by decide +kernel
theorem dL_law_254 : decode cL_law 254 = .ok (.iconst 0, 1) := by decide +kernel
theorem dL_law_255 : decode cL_law 255 = .ok (.aload_n 0, 1) := by decide +kernel
theorem dL_law_256 : decode cL_law 256 = .ok (.iload 4, 2) := by decide +kernel
theorem dL_law_258 : decode cL_law 258 = .ok (.iconst 2, 1) := by decide +kernel
theorem dL_law_259 : decode cL_law 259 = .ok (.iadd, 1) := by decide +kernel
theorem dL_law_260 : decode cL_law 260 = .ok (.iaload, 1) := by decide +kernel
theorem dL_law_261 : decode cL_law 261 = .ok (.aload_n 3, 1) := by decide +kernel
theorem dL_law_262 : decode cL_law 262 = .ok (.invokestatic 109, 3) := by decide +kernel
theorem dL_law_265 : decode cL_law 265 = .ok (.istore 5, 2) := by decide +kernel
theorem dL_law_267 : decode cL_law 267 = .ok (.aload_n 2, 1) := by decide +kernel
theorem dL_law_268 : decode cL_law 268 = .ok (.aload_n 0, 1) := by decide +kernel
theorem dL_law_269 : decode cL_law 269 = .ok (.iload 4, 2) := by decide +kernel
theorem dL_law_271 : decode cL_law 271 = .ok (.iconst 1, 1) := by decide +kernel
theorem dL_law_272 : decode cL_law 272 = .ok (.iadd, 1) := by decide +kernel
theorem dL_law_273 : decode cL_law 273 = .ok (.iaload, 1) := by decide +kernel
theorem dL_law_274 : decode cL_law 274 = .ok (.ifCond .eq 7, 3) := by decide +kernel
theorem dL_law_277 : decode cL_law 277 = .ok (.iconst 1, 1) := by decide +kernel
theorem dL_law_278 : decode cL_law 278 = .ok (.goto 4, 3) := by decide +kernel
theorem dL_law_281 : decode cL_law 281 = .ok (.iconst 0, 1) := by decide +kernel
theorem dL_law_282 : decode cL_law 282 = .ok (.aload_n 0, 1) := by decide +kernel
theorem dL_law_283 : decode cL_law 283 = .ok (.iload 4, 2) := by decide +kernel
theorem dL_law_285 : decode cL_law 285 = .ok (.iconst 2, 1) := by decide +kernel
theorem dL_law_286 : decode cL_law 286 = .ok (.iadd, 1) := by decide +kernel
theorem dL_law_287 : decode cL_law 287 = .ok (.iaload, 1) := by decide +kernel
theorem dL_law_288 : decode cL_law 288 = .ok (.invokevirtual 112, 3) := by decide +kernel
theorem dL_law_291 : decode cL_law 291 = .ok (.istore 6, 2) := by decide +kernel
theorem dL_law_293 : decode cL_law 293 = .ok (.goto 928, 3) := by decide +kernel
