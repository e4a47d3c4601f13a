theorem dX12_thing_37 : decode cX12_thing 37 = .ok (.isub, 1) := by decide +kernel
theorem dX12_thing_38 : decode cX12_thing 38 = .ok (.istore 6, 2) := by decide +kernel
theorem dX12_thing_40 : decode cX12_thing 40 = .ok (.iload 6, 2) := by decide +kernel
theorem dX12_thing_42 : decode cX12_thing 42 = .ok (.iconst (-1), 1) := by decide +kernel
theorem dX12_thing_43 : decode cX12_thing 43 = .ok (.if_icmp .eq 65, 3) := by decide +kernel
theorem dX12_thing_46 : decode cX12_thing 46 = .ok (.aload_n 0, 1) := by decide +kernel
theorem dX12_thing_47 : decode cX12_thing 47 = .ok (.getfield 109, 3) := by decide +kernel
theorem dX12_thing_50 : decode cX12_thing 50 = .ok (.iload 6, 2) := by decide +kernel
theorem dX12_thing_52 : decode cX12_thing 52 = .ok (.iaload, 1) := by decide +kernel
theorem dX12_thing_53 : decode cX12_thing 53 = .ok (.iload_n 1, 1) := by decide +kernel
theorem dX12_thing_54 : decode cX12_thing 54 = .ok (.if_icmp .ne 40, 3) := by decide +kernel
theorem dX12_thing_57 : decode cX12_thing 57 = .ok (.aload_n 0, 1) := by decide +kernel
theorem dX12_thing_58 : decode cX12_thing 58 = .ok (.getfield 112, 3) := by decide +kernel
theorem dX12_thing_61 : decode cX12_thing 61 = .ok (.iload 6, 2) := by decide +kernel
theorem dX12_thing_63 : decode cX12_thing 63 = .ok (.iaload, 1) := by decide +kernel
theorem dX12_thing_64 : decode cX12_thing 64 = .ok (.iload_n 2, 1) := by decide +kernel
theorem dX12_thing_65 : decode cX12_thing 65 = .ok (.if_icmp .ne 29, 3) := by decide +kernel
theorem dX12_thing_68 : decode cX12_thing 68 = .ok (.aload_n 0, 1) := by decide +kernel
theorem dX12_thing_69 : decode cX12_thing 69 = .ok (.getfield 115, 3) := by decide +kernel
theorem dX12_thing_72 : decode cX12_thing 72 = .ok (.iload 6, 2) := by decide +kernel
theorem dX12_thing_74 : decode cX12_thing 74 = .ok (.iaload, 1) := by decide +kernel
theorem dX12_thing_75 : decode cX12_thing 75 = .ok (.iload_n 3, 1) := by decide +kernel
theorem dX12_thing_76 : decode cX12_thing 76 = .ok (.if_icmp .ne 18, 3) := by decide +kernel
theorem dX12_thing_79 : decode cX12_thing 79 = .ok (.aload_n 0, 1) := by decide +kernel
theorem dX12_thing_80 : decode cX12_thing 80 = .ok (.getfield 118, 3) := by decide +kernel
theorem dX12_thing_83 : decode cX12_thing 83 = .ok (.iload 6, 2) := by decide +kernel
theorem dX12_thing_85 : decode cX12_thing 85 = .ok (.iaload, 1) := by decide +kernel
theorem dX12_thing_86 : decode cX12_thing 86 = .ok (.iload 4, 2) := by decide +kernel
theorem dX12_thing_88 : decode cX12_thing 88 = .ok (.if_icmp .ne 6, 3) := by decide +kernel
theorem dX12_thing_91 : decode cX12_thing 91 = .ok (.iload 6, 2) := by decide +kernel
theorem dX12_thing_93 : decode cX12_thing 93 = .ok (.ireturn, 1) := by decide +kernel
theorem dX12_thing_94 : decode cX12_thing 94 = .ok (.aload_n 0, 1) := by decide +kernel
theorem dX12_thing_95 : decode cX12_thing 95 = .ok (.getfield 121, 3) := by decide +kernel
theorem dX12_thing_98 : decode cX12_thing 98 = .ok (.iload 6, 2) := by decide +kernel
theorem dX12_thing_100 : decode cX12_thing 100 = .ok (.iaload, 1) := by decide +kernel
theorem dX12_thing_101 : decode cX12_thing 101 = .ok (.iconst 1, 1) := by decide +kernel
theorem dX12_thing_102 : decode cX12_thing 102 = .ok (.isub, 1) := by decide +kernel
theorem dX12_thing_103 : decode cX12_thing 103 = .ok (.istore 6, 2) := by decide +kernel
theorem dX12_thing_105 : decode cX12_thing 105 = .ok (.goto (-65), 3) := by decide +kernel
theorem dX12_thing_108 : decode cX12_thing 108 = .ok (.aload_n 0, 1) := by decide +kernel
theorem dX12_thing_109 : decode cX12_thing 109 = .ok (.getfield 109, 3) := by decide +kernel
theorem dX12_thing_112 : decode cX12_thing 112 = .ok (.aload_n 0, 1) := by decide +kernel
theorem dX12_thing_113 : decode cX12_thing 113 = .ok (.getfield 360, 3) := by decide +kernel
theorem dX12_thing_116 : decode cX12_thing 116 = .ok (.iload_n 1, 1) := by decide +kernel
theorem dX12_thing_117 : decode cX12_thing 117 = .ok (.iastore, 1) := by decide +kernel
theorem dX12_thing_118 : decode cX12_thing 118 = .ok (.aload_n 0, 1) := by decide +kernel
theorem dX12_thing_119 : decode cX12_thing 119 = .ok (.getfield 112, 3) := by decide +kernel
theorem dX12_thing_122 : decode cX12_thing 122 = .ok (.aload_n 0, 1) := by decide +kernel
theorem dX12_thing_123 : decode cX12_thing 123 = .ok (.getfield 360, 3) := by decide +kernel
theorem dX12_thing_126 : decode cX12_thing 126 = .ok (.iload_n 2, 1) := by decide +kernel
theorem dX12_thing_127 : decode cX12_thing 127 = .ok (.iastore, 1) := by decide +kernel
theorem dX12_thing_128 : decode cX12_thing 128 = .ok (.aload_n 0, 1) := by decide +kernel
theorem dX12_thing_129 : decode cX12_thing 129 = .ok (.getfield 115, 3) := by decide +kernel
theorem dX12_thing_132 : decode cX12_thing 132 = .ok (.aload_n 0, 1) := by decide +kernel
theorem dX12_thing_133 : decode cX12_thing 133 = .ok (.getfield 360, 3) := by decide +kernel
theorem dX12_thing_136 : decode cX12_thing 136 = .ok (.iload_n 3, 1) := by decide +kernel
theorem dX12_thing_137 : decode cX12_thing 137 = .ok (.iastore, 1) := by decide +kernel
theorem dX12_thing_138 : decode cX12_thing 138 = .ok (.aload_n 0, 1) := by decide +kernel
theorem dX12_thing_139 : decode cX12_thing 139 = .ok (.getfield 118, 3) := by decide +kernel
theorem dX12_thing_142 : decode cX12_thing 142 = .ok (.aload_n 0, 1) := by decide +kernel
theorem dX12_thing_143 : decode cX12_thing 143 = .ok (.getfield 360, 3) := by decide +kernel
theorem dX12_thing_146 : decode cX12_thing 146 = .ok (.iload 4, 2) := by decide +kernel
theorem dX12_thing_148 : decode cX12_thing 148 = .ok (.iastore, 1) := by decide +kernel
theorem dX12_thing_149 : decode cX12_thing 149 = .ok (.aload_n 0, 1) := by decide +kernel
theorem dX12_thing_150 : decode cX12_thing 150 = .ok (.getfield 121, 3) := by decide +kernel
theorem dX12_thing_153 : decode cX12_thing 153 = .ok (.aload_n 0, 1) := by decide +kernel
theorem dX12_thing_154 : decode cX12_thing 154 = .ok (.getfield 360, 3) := by decide +kernel
theorem dX12_thing_157 : decode cX12_thing 157 = .ok (.aload_n 0, 1) := by decide +kernel
theorem dX12_thing_158 : decode cX12_thing 158 = .ok (.getfield 124, 3) := by decide +kernel
theorem dX12_thing_161 : decode cX12_thing 161 = .ok (.iload 5, 2) := by decide +kernel
theorem dX12_thing_163 : decode cX12_thing 163 = .ok (.iaload, 1) := by decide +kernel
theorem dX12_thing_164 : decode cX12_thing 164 = .ok (.iastore, 1) := by decide +kernel
theorem dX12_thing_165 : decode cX12_thing 165 = .ok (.aload_n 0, 1) := by decide +kernel
theorem dX12_thing_166 : decode cX12_thing 166 = .ok (.getfield 124, 3) := by decide +kernel
theorem dX12_thing_169 : decode cX12_thing 169 = .ok (.iload 5, 2) := by decide +kernel
theorem dX12_thing_171 : decode cX12_thing 171 = .ok (.aload_n 0, 1) := by decide +kernel
theorem dX12_thing_172 : decode cX12_thing 172 = .ok (.getfield 360, 3) := by decide +kernel
theorem dX12_thing_175 : decode cX12_thing 175 = .ok (.iconst 1, 1) := by decide +kernel
theorem dX12_thing_176 : decode cX12_thing 176 = .ok (.iadd, 1) := by decide +kernel
theorem dX12_thing_177 : decode cX12_thing 177 = .ok (.iastore, 1) := by decide +kernel
theorem dX12_thing_178 : decode cX12_thing 178 = .ok (.aload_n 0, 1) := by decide +kernel
theorem dX12_thing_179 : decode cX12_thing 179 = .ok (.dup, 1) := by decide +kernel
theorem dX12_thing_180 : decode cX12_thing 180 = .ok (.getfield 360, 3) := by decide +kernel
theorem dX12_thing_183 : decode cX12_thing 183 = .ok (.iconst 1, 1) := by decide +kernel
theorem dX12_thing_184 : decode cX12_thing 184 = .ok (.iadd, 1) := by decide +kernel
theorem dX12_thing_185 : decode cX12_thing 185 = .ok (.putfield 360, 3) := by decide +kernel
theorem dX12_thing_188 : decode cX12_thing 188 = .ok (.aload_n 0, 1) := by decide +kernel
theorem dX12_thing_189 : decode cX12_thing 189 = .ok (.getfield 360, 3) := by decide +kernel
theorem dX12_thing_192 : decode cX12_thing 192 = .ok (.iconst 1, 1) := by decide +kernel
theorem dX12_thing_193 : decode cX12_thing 193 = .ok (.isub, 1) := by decide +kernel
theorem dX12_thing_194 : decode cX12_thing 194 = .ok (.ireturn, 1) := by decide +kernel
theorem dX12_stamp_0 : decode cX12_stamp 0 = .ok (.aload_n 0, 1) := by decide +kernel
theorem dX12_stamp_1 : decode cX12_stamp 1 = .ok (.iload_n 1, 1) := by decide +kernel
theorem dX12_stamp_2 : decode cX12_stamp 2 = .ok (.iload_n 2, 1) := by decide +kernel
theorem dX12_stamp_3 : decode cX12_stamp 3 = .ok (.iload_n 3, 1) := by decide +kernel
theorem dX12_stamp_4 : decode cX12_stamp 4 = .ok (.iconst 0, 1) := by decide +kernel
theorem dX12_stamp_5 : decode cX12_stamp 5 = .ok (.invokevirtual 363, 3) := by decide +kernel
theorem dX12_stamp_8 : decode cX12_stamp 8 = .ok (.ireturn, 1) := by decide +kernel
theorem dX12_has_0 : decode cX12_has 0 = .ok (.iload_n 0, 1) := by decide +kernel
theorem dX12_has_1 : decode cX12_has 1 = .ok (.iload_n 1, 1) := by decide +kernel
theorem dX12_has_2 : decode cX12_has 2 = .ok (.ishr, 1) := by decide +kernel
theorem dX12_has_3 : decode cX12_has 3 = .ok (.iconst 1, 1) := by decide +kernel
theorem dX12_has_4 : decode cX12_has 4 = .ok (.iand, 1) := by decide +kernel
theorem dX12_has_5 : decode cX12_has 5 = .ok (.iconst 1, 1) := by decide +kernel
theorem dX12_has_6 : decode cX12_has 6 = .ok (.if_icmp .ne 7, 3) := by decide +kernel
theorem dX12_has_9 : decode cX12_has 9 = .ok (.iconst 1, 1) := by decide +kernel
theorem dX12_has_10 : decode cX12_has 10 = .ok (.goto 4, 3) := by decide +kernel
theorem dX12_has_13 : decode cX12_has 13 = .ok (.iconst 0, 1) := by decide +kernel
theorem dX12_has_14 : decode cX12_has 14 = .ok (.ireturn, 1) := by decide +kernel
theorem dX12_closes_0 : decode cX12_closes 0 = .ok (.iconst 0, 1) := by decide +kernel
theorem dX12_closes_1 : decode cX12_closes 1 = .ok (.istore_n 2, 1) := by decide +kernel
theorem dX12_closes_2 : decode cX12_closes 2 = .ok (.iload_n 2, 1) := by decide +kernel
theorem dX12_closes_3 : decode cX12_closes 3 = .ok (.bipush 6, 2) := by decide +kernel
theorem dX12_closes_5 : decode cX12_closes 5 = .ok (.if_icmp .ge 51, 3) := by decide +kernel
theorem dX12_closes_8 : decode cX12_closes 8 = .ok (.aload_n 0, 1) := by decide +kernel
theorem dX12_closes_9 : decode cX12_closes 9 = .ok (.getfield 154, 3) := by decide +kernel
theorem dX12_closes_12 : decode cX12_closes 12 = .ok (.iload_n 2, 1) := by decide +kernel
theorem dX12_closes_13 : decode cX12_closes 13 = .ok (.iload_n 1, 1) := by decide +kernel
theorem dX12_closes_14 : decode cX12_closes 14 = .ok (.iload_n 2, 1) := by decide +kernel
theorem dX12_closes_15 : decode cX12_closes 15 = .ok (.invokestatic 367, 3) := by decide +kernel
theorem dX12_closes_18 : decode cX12_closes 18 = .ok (.ifCond .eq 18, 3) := by decide +kernel
theorem dX12_closes_21 : decode cX12_closes 21 = .ok (.aload_n 0, 1) := by decide +kernel
theorem dX12_closes_22 : decode cX12_closes 22 = .ok (.aload_n 0, 1) := by decide +kernel
theorem dX12_closes_23 : decode cX12_closes 23 = .ok (.getfield 148, 3) := by decide +kernel
theorem dX12_closes_26 : decode cX12_closes 26 = .ok (.iload_n 2, 1) := by decide +kernel
theorem dX12_closes_27 : decode cX12_closes 27 = .ok (.iaload, 1) := by decide +kernel
theorem dX12_closes_28 : decode cX12_closes 28 = .ok (.invokevirtual 371, 3) := by decide +kernel
theorem dX12_closes_31 : decode cX12_closes 31 = .ok (.iload_n 1, 1) := by decide +kernel
theorem dX12_closes_32 : decode cX12_closes 32 = .ok (.iand, 1) := by decide +kernel
theorem dX12_closes_33 : decode cX12_closes 33 = .ok (.goto 4, 3) := by decide +kernel
theorem dX12_closes_36 : decode cX12_closes 36 = .ok (.iconst 0, 1) := by decide +kernel
theorem dX12_closes_37 : decode cX12_closes 37 = .ok (.iastore, 1) := by decide +kernel
theorem dX12_closes_38 : decode cX12_closes 38 = .ok (.aload_n 0, 1) := by decide +kernel
theorem dX12_closes_39 : decode cX12_closes 39 = .ok (.getfield 157, 3) := by decide +kernel
theorem dX12_closes_42 : decode cX12_closes 42 = .ok (.iload_n 2, 1) := by decide +kernel
theorem dX12_closes_43 : decode cX12_closes 43 = .ok (.aload_n 0, 1) := by decide +kernel
theorem dX12_closes_44 : decode cX12_closes 44 = .ok (.getfield 154, 3) := by decide +kernel
theorem dX12_closes_47 : decode cX12_closes 47 = .ok (.iload_n 2, 1) := by decide +kernel
theorem dX12_closes_48 : decode cX12_closes 48 = .ok (.iaload, 1) := by decide +kernel
theorem dX12_closes_49 : decode cX12_closes 49 = .ok (.iastore, 1) := by decide +kernel
theorem dX12_closes_50 : decode cX12_closes 50 = .ok (.iinc 2 1, 3) := by decide +kernel
theorem dX12_closes_53 : decode cX12_closes 53 = .ok (.goto (-51), 3) := by decide +kernel
theorem dX12_closes_56 : decode cX12_closes 56 = .ok (.iconst 0, 1) := by decide +kernel
theorem dX12_closes_57 : decode cX12_closes 57 = .ok (.istore_n 2, 1) := by decide +kernel
theorem dX12_closes_58 : decode cX12_closes 58 = .ok (.iload_n 2, 1) := by decide +kernel
theorem dX12_closes_59 : decode cX12_closes 59 = .ok (.bipush 6, 2) := by decide +kernel
theorem dX12_closes_61 : decode cX12_closes 61 = .ok (.if_icmp .ge 73, 3) := by decide +kernel
theorem dX12_closes_64 : decode cX12_closes 64 = .ok (.iconst 0, 1) := by decide +kernel
theorem dX12_closes_65 : decode cX12_closes 65 = .ok (.istore_n 3, 1) := by decide +kernel
theorem dX12_closes_66 : decode cX12_closes 66 = .ok (.iload_n 3, 1) := by decide +kernel
theorem dX12_closes_67 : decode cX12_closes 67 = .ok (.bipush 6, 2) := by decide +kernel
theorem dX12_closes_69 : decode cX12_closes 69 = .ok (.if_icmp .ge 59, 3) := by decide +kernel
theorem dX12_closes_72 : decode cX12_closes 72 = .ok (.iconst 0, 1) := by decide +kernel
theorem dX12_closes_73 : decode cX12_closes 73 = .ok (.istore 4, 2) := by decide +kernel
theorem dX12_closes_75 : decode cX12_closes 75 = .ok (.iload 4, 2) := by decide +kernel
theorem dX12_closes_77 : decode cX12_closes 77 = .ok (.bipush 6, 2) := by decide +kernel
theorem dX12_closes_79 : decode cX12_closes 79 = .ok (.if_icmp .ge 43, 3) := by decide +kernel
theorem dX12_closes_82 : decode cX12_closes 82 = .ok (.aload_n 0, 1) := by decide +kernel
theorem dX12_closes_83 : decode cX12_closes 83 = .ok (.getfield 157, 3) := by decide +kernel
theorem dX12_closes_86 : decode cX12_closes 86 = .ok (.iload_n 3, 1) := by decide +kernel
theorem dX12_closes_87 : decode cX12_closes 87 = .ok (.dup2, 1) := by decide +kernel
theorem dX12_closes_88 : decode cX12_closes 88 = .ok (.iaload, 1) := by decide +kernel
theorem dX12_closes_89 : decode cX12_closes 89 = .ok (.aload_n 0, 1) := by decide +kernel
theorem dX12_closes_90 : decode cX12_closes 90 = .ok (.getfield 157, 3) := by decide +kernel
theorem dX12_closes_93 : decode cX12_closes 93 = .ok (.iload_n 3, 1) := by decide +kernel
theorem dX12_closes_94 : decode cX12_closes 94 = .ok (.iaload, 1) := by decide +kernel
theorem dX12_closes_95 : decode cX12_closes 95 = .ok (.iload 4, 2) := by decide +kernel
theorem dX12_closes_97 : decode cX12_closes 97 = .ok (.invokestatic 367, 3) := by decide +kernel
theorem dX12_closes_100 : decode cX12_closes 100 = .ok (.ifCond .eq 13, 3) := by decide +kernel
theorem dX12_closes_103 : decode cX12_closes 103 = .ok (.aload_n 0, 1) := by decide +kernel
theorem dX12_closes_104 : decode cX12_closes 104 = .ok (.getfield 154, 3) := by decide +kernel
theorem dX12_closes_107 : decode cX12_closes 107 = .ok (.iload 4, 2) := by decide +kernel
theorem dX12_closes_109 : decode cX12_closes 109 = .ok (.iaload, 1) := by decide +kernel
theorem dX12_closes_110 : decode cX12_closes 110 = .ok (.goto 4, 3) := by decide +kernel
theorem dX12_closes_113 : decode cX12_closes 113 = .ok (.iconst 0, 1) := by decide +kernel
theorem dX12_closes_114 : decode cX12_closes 114 = .ok (.ior, 1) := by decide +kernel
theorem dX12_closes_115 : decode cX12_closes 115 = .ok (.iastore, 1) := by decide +kernel
theorem dX12_closes_116 : decode cX12_closes 116 = .ok (.iinc 4 1, 3) := by decide +kernel
theorem dX12_closes_119 : decode cX12_closes 119 = .ok (.goto (-44), 3) := by decide +kernel
theorem dX12_closes_122 : decode cX12_closes 122 = .ok (.iinc 3 1, 3) := by decide +kernel
theorem dX12_closes_125 : decode cX12_closes 125 = .ok (.goto (-59), 3) := by decide +kernel
theorem dX12_closes_128 : decode cX12_closes 128 = .ok (.iinc 2 1, 3) := by decide +kernel
theorem dX12_closes_131 : decode cX12_closes 131 = .ok (.goto (-73), 3) := by decide +kernel
theorem dX12_closes_134 : decode cX12_closes 134 = .ok (.iconst 0, 1) := by decide +kernel
theorem dX12_closes_135 : decode cX12_closes 135 = .ok (.istore_n 2, 1) := by decide +kernel
theorem dX12_closes_136 : decode cX12_closes 136 = .ok (.iload_n 2, 1) := by decide +kernel
theorem dX12_closes_137 : decode cX12_closes 137 = .ok (.bipush 6, 2) := by decide +kernel
theorem dX12_closes_139 : decode cX12_closes 139 = .ok (.if_icmp .ge 28, 3) := by decide +kernel
theorem dX12_closes_142 : decode cX12_closes 142 = .ok (.aload_n 0, 1) := by decide +kernel
theorem dX12_closes_143 : decode cX12_closes 143 = .ok (.getfield 157, 3) := by decide +kernel
theorem dX12_closes_146 : decode cX12_closes 146 = .ok (.iload_n 2, 1) := by decide +kernel
theorem dX12_closes_147 : decode cX12_closes 147 = .ok (.iaload, 1) := by decide +kernel
theorem dX12_closes_148 : decode cX12_closes 148 = .ok (.iload_n 2, 1) := by decide +kernel
theorem dX12_closes_149 : decode cX12_closes 149 = .ok (.invokestatic 367, 3) := by decide +kernel
theorem dX12_closes_152 : decode cX12_closes 152 = .ok (.ifCond .eq 9, 3) := by decide +kernel
theorem dX12_closes_155 : decode cX12_closes 155 = .ok (.sipush 350, 3) := by decide +kernel
theorem dX12_closes_158 : decode cX12_closes 158 = .ok (.iload_n 2, 1) := by decide +kernel
theorem dX12_closes_159 : decode cX12_closes 159 = .ok (.iadd, 1) := by decide +kernel
theorem dX12_closes_160 : decode cX12_closes 160 = .ok (.ireturn, 1) := by decide +kernel
theorem dX12_closes_161 : decode cX12_closes 161 = .ok (.iinc 2 1, 3) := by decide +kernel
theorem dX12_closes_164 : decode cX12_closes 164 = .ok (.goto (-28), 3) := by decide +kernel
theorem dX12_closes_167 : decode cX12_closes 167 = .ok (.iconst 0, 1) := by decide +kernel
theorem dX12_closes_168 : decode cX12_closes 168 = .ok (.istore_n 2, 1) := by decide +kernel
theorem dX12_closes_169 : decode cX12_closes 169 = .ok (.iconst 0, 1) := by decide +kernel
theorem dX12_closes_170 : decode cX12_closes 170 = .ok (.istore_n 3, 1) := by decide +kernel
theorem dX12_closes_171 : decode cX12_closes 171 = .ok (.iload_n 3, 1) := by decide +kernel
theorem dX12_closes_172 : decode cX12_closes 172 = .ok (.bipush 6, 2) := by decide +kernel
theorem dX12_closes_174 : decode cX12_closes 174 = .ok (.if_icmp .ge 88, 3) := by decide +kernel
theorem dX12_closes_177 : decode cX12_closes 177 = .ok (.iconst 0, 1) := by decide +kernel
theorem dX12_closes_178 : decode cX12_closes 178 = .ok (.istore 4, 2) := by decide +kernel
theorem dX12_closes_180 : decode cX12_closes 180 = .ok (.iload 4, 2) := by decide +kernel
theorem dX12_closes_182 : decode cX12_closes 182 = .ok (.bipush 6, 2) := by decide +kernel
theorem dX12_closes_184 : decode cX12_closes 184 = .ok (.if_icmp .ge 72, 3) := by decide +kernel
theorem dX12_closes_187 : decode cX12_closes 187 = .ok (.iload_n 1, 1) := by decide +kernel
theorem dX12_closes_188 : decode cX12_closes 188 = .ok (.iload 4, 2) := by decide +kernel
theorem dX12_closes_190 : decode cX12_closes 190 = .ok (.invokestatic 367, 3) := by decide +kernel
theorem dX12_closes_193 : decode cX12_closes 193 = .ok (.ifCond .eq 57, 3) := by decide +kernel
theorem dX12_closes_196 : decode cX12_closes 196 = .ok (.iload_n 2, 1) := by decide +kernel
theorem dX12_closes_197 : decode cX12_closes 197 = .ok (.iload 4, 2) := by decide +kernel
theorem dX12_closes_199 : decode cX12_closes 199 = .ok (.invokestatic 367, 3) := by decide +kernel
theorem dX12_closes_202 : decode cX12_closes 202 = .ok (.ifCond .ne 48, 3) := by decide +kernel
theorem dX12_closes_205 : decode cX12_closes 205 = .ok (.aload_n 0, 1) := by decide +kernel
theorem dX12_closes_206 : decode cX12_closes 206 = .ok (.getfield 154, 3) := by decide +kernel
theorem dX12_closes_209 : decode cX12_closes 209 = .ok (.iload 4, 2) := by decide +kernel
theorem dX12_closes_211 : decode cX12_closes 211 = .ok (.iaload, 1) := by decide +kernel
theorem dX12_closes_212 : decode cX12_closes 212 = .ok (.iload_n 2, 1) := by decide +kernel
theorem dX12_closes_213 : decode cX12_closes 213 = .ok (.iconst (-1), 1) := by decide +kernel
theorem dX12_closes_214 : decode cX12_closes 214 = .ok (.ixor, 1) := by decide +kernel
theorem dX12_closes_215 : decode cX12_closes 215 = .ok (.iand, 1) := by decide +kernel
theorem dX12_closes_216 : decode cX12_closes 216 = .ok (.ifCond .ne 34, 3) := by decide +kernel
theorem dX12_closes_219 : decode cX12_closes 219 = .ok (.aload_n 0, 1) := by decide +kernel
theorem dX12_closes_220 : decode cX12_closes 220 = .ok (.iload_n 2, 1) := by decide +kernel
theorem dX12_closes_221 : decode cX12_closes 221 = .ok (.invokevirtual 374, 3) := by decide +kernel
theorem dX12_closes_224 : decode cX12_closes 224 = .ok (.aload_n 0, 1) := by decide +kernel
theorem dX12_closes_225 : decode cX12_closes 225 = .ok (.getfield 151, 3) := by decide +kernel
theorem dX12_closes_228 : decode cX12_closes 228 = .ok (.iload 4, 2) := by decide +kernel
theorem dX12_closes_230 : decode cX12_closes 230 = .ok (.aload_n 0, 1) := by decide +kernel
theorem dX12_closes_231 : decode cX12_closes 231 = .ok (.iconst 0, 1) := by decide +kernel
theorem dX12_closes_232 : decode cX12_closes 232 = .ok (.aload_n 0, 1) := by decide +kernel
theorem dX12_closes_233 : decode cX12_closes 233 = .ok (.getfield 148, 3) := by decide +kernel
theorem dX12_closes_236 : decode cX12_closes 236 = .ok (.iload 4, 2) := by decide +kernel
theorem dX12_closes_238 : decode cX12_closes 238 = .ok (.iaload, 1) := by decide +kernel
theorem dX12_closes_239 : decode cX12_closes 239 = .ok (.invokevirtual 378, 3) := by decide +kernel
theorem dX12_closes_242 : decode cX12_closes 242 = .ok (.iastore, 1) := by decide +kernel
theorem dX12_closes_243 : decode cX12_closes 243 = .ok (.iload_n 2, 1) := by decide +kernel
theorem dX12_closes_244 : decode cX12_closes 244 = .ok (.iconst 1, 1) := by decide +kernel
theorem dX12_closes_245 : decode cX12_closes 245 = .ok (.iload 4, 2) := by decide +kernel
theorem dX12_closes_247 : decode cX12_closes 247 = .ok (.ishl, 1) := by decide +kernel
theorem dX12_closes_248 : decode cX12_closes 248 = .ok (.ior, 1) := by decide +kernel
theorem dX12_closes_249 : decode cX12_closes 249 = .ok (.istore_n 2, 1) := by decide +kernel
theorem dX12_closes_250 : decode cX12_closes 250 = .ok (.iinc 4 1, 3) := by decide +kernel
theorem dX12_closes_253 : decode cX12_closes 253 = .ok (.goto (-73), 3) := by decide +kernel
theorem dX12_closes_256 : decode cX12_closes 256 = .ok (.iinc 3 1, 3) := by decide +kernel
theorem dX12_closes_259 : decode cX12_closes 259 = .ok (.goto (-88), 3) := by decide +kernel
theorem dX12_closes_262 : decode cX12_closes 262 = .ok (.aload_n 0, 1) := by decide +kernel
theorem dX12_closes_263 : decode cX12_closes 263 = .ok (.iload_n 1, 1) := by decide +kernel
theorem dX12_closes_264 : decode cX12_closes 264 = .ok (.invokevirtual 374, 3) := by decide +kernel
theorem dX12_closes_267 : decode cX12_closes 267 = .ok (.iconst 0, 1) := by decide +kernel
theorem dX12_closes_268 : decode cX12_closes 268 = .ok (.istore_n 3, 1) := by decide +kernel
theorem dX12_closes_269 : decode cX12_closes 269 = .ok (.iload_n 3, 1) := by decide +kernel
theorem dX12_closes_270 : decode cX12_closes 270 = .ok (.bipush 6, 2) := by decide +kernel
theorem dX12_closes_272 : decode cX12_closes 272 = .ok (.if_icmp .ge 40, 3) := by decide +kernel
theorem dX12_closes_275 : decode cX12_closes 275 = .ok (.iload_n 1, 1) := by decide +kernel
theorem dX12_closes_276 : decode cX12_closes 276 = .ok (.iload_n 3, 1) := by decide +kernel
theorem dX12_closes_277 : decode cX12_closes 277 = .ok (.invokestatic 367, 3) := by decide +kernel
theorem dX12_closes_280 : decode cX12_closes 280 = .ok (.ifCond .eq 26, 3) := by decide +kernel
theorem dX12_closes_283 : decode cX12_closes 283 = .ok (.aload_n 0, 1) := by decide +kernel
theorem dX12_closes_284 : decode cX12_closes 284 = .ok (.getfield 84, 3) := by decide +kernel
theorem dX12_closes_287 : decode cX12_closes 287 = .ok (.aload_n 0, 1) := by decide +kernel
theorem dX12_closes_288 : decode cX12_closes 288 = .ok (.getfield 151, 3) := by decide +kernel
theorem dX12_closes_291 : decode cX12_closes 291 = .ok (.iload_n 3, 1) := by decide +kernel
theorem dX12_closes_292 : decode cX12_closes 292 = .ok (.iaload, 1) := by decide +kernel
theorem dX12_closes_293 : decode cX12_closes 293 = .ok (.iaload, 1) := by decide +kernel
theorem dX12_closes_294 : decode cX12_closes 294 = .ok (.sipush 200, 3) := by decide +kernel
theorem dX12_closes_297 : decode cX12_closes 297 = .ok (.if_icmp .le 9, 3) := by decide +kernel
theorem dX12_closes_300 : decode cX12_closes 300 = .ok (.sipush 750, 3) := by decide +kernel
theorem dX12_closes_303 : decode cX12_closes 303 = .ok (.iload_n 3, 1) := by decide +kernel
theorem dX12_closes_304 : decode cX12_closes 304 = .ok (.iadd, 1) := by decide +kernel
theorem dX12_closes_305 : decode cX12_closes 305 = .ok (.ireturn, 1) := by decide +kernel
theorem dX12_closes_306 : decode cX12_closes 306 = .ok (.iinc 3 1, 3) := by decide +kernel
theorem dX12_closes_309 : decode cX12_closes 309 = .ok (.goto (-40), 3) := by decide +kernel
theorem dX12_closes_312 : decode cX12_closes 312 = .ok (.iconst 0, 1) := by decide +kernel
theorem dX12_closes_313 : decode cX12_closes 313 = .ok (.ireturn, 1) := by decide +kernel
theorem dX12_setsBy_0 : decode cX12_setsBy 0 = .ok (.iconst 0, 1) := by decide +kernel
theorem dX12_setsBy_1 : decode cX12_setsBy 1 = .ok (.istore_n 2, 1) := by decide +kernel
theorem dX12_setsBy_2 : decode cX12_setsBy 2 = .ok (.iload_n 2, 1) := by decide +kernel
theorem dX12_setsBy_3 : decode cX12_setsBy 3 = .ok (.bipush 6, 2) := by decide +kernel
theorem dX12_setsBy_5 : decode cX12_setsBy 5 = .ok (.if_icmp .ge 33, 3) := by decide +kernel
theorem dX12_setsBy_8 : decode cX12_setsBy 8 = .ok (.aload_n 0, 1) := by decide +kernel
theorem dX12_setsBy_9 : decode cX12_setsBy 9 = .ok (.getfield 102, 3) := by decide +kernel
theorem dX12_setsBy_12 : decode cX12_setsBy 12 = .ok (.iload_n 2, 1) := by decide +kernel
theorem dX12_setsBy_13 : decode cX12_setsBy 13 = .ok (.iload_n 1, 1) := by decide +kernel
theorem dX12_setsBy_14 : decode cX12_setsBy 14 = .ok (.iload_n 2, 1) := by decide +kernel
theorem dX12_setsBy_15 : decode cX12_setsBy 15 = .ok (.invokestatic 367, 3) := by decide +kernel
theorem dX12_setsBy_18 : decode cX12_setsBy 18 = .ok (.ifCond .eq 12, 3) := by decide +kernel
theorem dX12_setsBy_21 : decode cX12_setsBy 21 = .ok (.aload_n 0, 1) := by decide +kernel
theorem dX12_setsBy_22 : decode cX12_setsBy 22 = .ok (.getfield 151, 3) := by decide +kernel
theorem dX12_setsBy_25 : decode cX12_setsBy 25 = .ok (.iload_n 2, 1) := by decide +kernel
theorem dX12_setsBy_26 : decode cX12_setsBy 26 = .ok (.iaload, 1) := by decide +kernel
theorem dX12_setsBy_27 : decode cX12_setsBy 27 = .ok (.goto 4, 3) := by decide +kernel
theorem dX12_setsBy_30 : decode cX12_setsBy 30 = .ok (.iconst (-1), 1) := by decide +kernel
theorem dX12_setsBy_31 : decode cX12_setsBy 31 = .ok (.iastore, 1) := by decide +kernel
theorem dX12_setsBy_32 : decode cX12_setsBy 32 = .ok (.iinc 2 1, 3) := by decide +kernel
theorem dX12_setsBy_35 : decode cX12_setsBy 35 = .ok (.goto (-33), 3) := by decide +kernel
theorem dX12_setsBy_38 : decode cX12_setsBy 38 = .ok (.return_, 1) := by decide +kernel
theorem dX12_isType__0 : decode cX12_isType_ 0 = .ok (.aload_n 0, 1) := by decide +kernel
theorem dX12_isType__1 : decode cX12_isType_ 1 = .ok (.getfield 127, 3) := by decide +kernel
theorem dX12_isType__4 : decode cX12_isType_ 4 = .ok (.bipush 6, 2) := by decide +kernel
theorem dX12_isType__6 : decode cX12_isType_ 6 = .ok (.iload_n 1, 1) := by decide +kernel
theorem dX12_isType__7 : decode cX12_isType_ 7 = .ok (.imul, 1) := by decide +kernel
theorem dX12_isType__8 : decode cX12_isType_ 8 = .ok (.iload_n 2, 1) := by decide +kernel
theorem dX12_isType__9 : decode cX12_isType_ 9 = .ok (.iadd, 1) := by decide +kernel
theorem dX12_isType__10 : decode cX12_isType_ 10 = .ok (.iaload, 1) := by decide +kernel
theorem dX12_isType__11 : decode cX12_isType_ 11 = .ok (.ireturn, 1) := by decide +kernel
theorem dX12_isOf_0 : decode cX12_isOf 0 = .ok (.aload_n 0, 1) := by decide +kernel
theorem dX12_isOf_1 : decode cX12_isOf 1 = .ok (.getfield 130, 3) := by decide +kernel
theorem dX12_isOf_4 : decode cX12_isOf 4 = .ok (.bipush 10, 2) := by decide +kernel
theorem dX12_isOf_6 : decode cX12_isOf 6 = .ok (.iload_n 1, 1) := by decide +kernel
theorem dX12_isOf_7 : decode cX12_isOf 7 = .ok (.imul, 1) := by decide +kernel
theorem dX12_isOf_8 : decode cX12_isOf 8 = .ok (.iload_n 2, 1) := by decide +kernel
theorem dX12_isOf_9 : decode cX12_isOf 9 = .ok (.iadd, 1) := by decide +kernel
theorem dX12_isOf_10 : decode cX12_isOf 10 = .ok (.iaload, 1) := by decide +kernel
theorem dX12_isOf_11 : decode cX12_isOf 11 = .ok (.ireturn, 1) := by decide +kernel
theorem dX12_isHole_0 : decode cX12_isHole 0 = .ok (.aload_n 0, 1) := by decide +kernel
theorem dX12_isHole_1 : decode cX12_isHole 1 = .ok (.getfield 133, 3) := by decide +kernel
theorem dX12_isHole_4 : decode cX12_isHole 4 = .ok (.bipush 10, 2) := by decide +kernel
theorem dX12_isHole_6 : decode cX12_isHole 6 = .ok (.iload_n 1, 1) := by decide +kernel
theorem dX12_isHole_7 : decode cX12_isHole 7 = .ok (.imul, 1) := by decide +kernel
theorem dX12_isHole_8 : decode cX12_isHole 8 = .ok (.iload_n 2, 1) := by decide +kernel
theorem dX12_isHole_9 : decode cX12_isHole 9 = .ok (.iadd, 1) := by decide +kernel
theorem dX12_isHole_10 : decode cX12_isHole 10 = .ok (.iaload, 1) := by decide +kernel
theorem dX12_isHole_11 : decode cX12_isHole 11 = .ok (.iconst 1, 1) := by decide +kernel
theorem dX12_isHole_12 : decode cX12_isHole 12 = .ok (.iand, 1) := by decide +kernel
theorem dX12_isHole_13 : decode cX12_isHole 13 = .ok (.ifCond .eq 7, 3) := by decide +kernel
theorem dX12_isHole_16 : decode cX12_isHole 16 = .ok (.iconst 1, 1) := by decide +kernel
theorem dX12_isHole_17 : decode cX12_isHole 17 = .ok (.goto 4, 3) := by decide +kernel
theorem dX12_isHole_20 : decode cX12_isHole 20 = .ok (.iconst 0, 1) := by decide +kernel
theorem dX12_isHole_21 : decode cX12_isHole 21 = .ok (.ireturn, 1) := by decide +kernel
theorem dX12_isGhost_0 : decode cX12_isGhost 0 = .ok (.aload_n 0, 1) := by decide +kernel
theorem dX12_isGhost_1 : decode cX12_isGhost 1 = .ok (.getfield 133, 3) := by decide +kernel
theorem dX12_isGhost_4 : decode cX12_isGhost 4 = .ok (.bipush 10, 2) := by decide +kernel
theorem dX12_isGhost_6 : decode cX12_isGhost 6 = .ok (.iload_n 1, 1) := by decide +kernel
theorem dX12_isGhost_7 : decode cX12_isGhost 7 = .ok (.imul, 1) := by decide +kernel
theorem dX12_isGhost_8 : decode cX12_isGhost 8 = .ok (.iload_n 2, 1) := by decide +kernel
theorem dX12_isGhost_9 : decode cX12_isGhost 9 = .ok (.iadd, 1) := by decide +kernel
theorem dX12_isGhost_10 : decode cX12_isGhost 10 = .ok (.iaload, 1) := by decide +kernel
theorem dX12_isGhost_11 : decode cX12_isGhost 11 = .ok (.iconst 2, 1) := by decide +kernel
theorem dX12_isGhost_12 : decode cX12_isGhost 12 = .ok (.iand, 1) := by decide +kernel
theorem dX12_isGhost_13 : decode cX12_isGhost 13 = .ok (.ifCond .eq 7, 3) := by decide +kernel
theorem dX12_isGhost_16 : decode cX12_isGhost 16 = .ok (.iconst 1, 1) := by decide +kernel
theorem dX12_isGhost_17 : decode cX12_isGhost 17 = .ok (.goto 4, 3) := by decide +kernel
theorem dX12_isGhost_20 : decode cX12_isGhost 20 = .ok (.iconst 0, 1) := by decide +kernel
theorem dX12_isGhost_21 : decode cX12_isGhost 21 = .ok (.ireturn, 1) := by decide +kernel
theorem dX12_clears_0 : decode cX12_clears 0 = .ok (.iconst 0, 1) := by decide +kernel
theorem dX12_clears_1 : decode cX12_clears 1 = .ok (.istore_n 2, 1) := by decide +kernel
theorem dX12_clears_2 : decode cX12_clears 2 = .ok (.iload_n 2, 1) := by decide +kernel
theorem dX12_clears_3 : decode cX12_clears 3 = .ok (.bipush 6, 2) := by decide +kernel
theorem dX12_clears_5 : decode cX12_clears 5 = .ok (.if_icmp .ge 22, 3) := by decide +kernel
theorem dX12_clears_8 : decode cX12_clears 8 = .ok (.aload_n 0, 1) := by decide +kernel
theorem dX12_clears_9 : decode cX12_clears 9 = .ok (.getfield 127, 3) := by decide +kernel
theorem dX12_clears_12 : decode cX12_clears 12 = .ok (.bipush 6, 2) := by decide +kernel
theorem dX12_clears_14 : decode cX12_clears 14 = .ok (.iload_n 1, 1) := by decide +kernel
theorem dX12_clears_15 : decode cX12_clears 15 = .ok (.imul, 1) := by decide +kernel
theorem dX12_clears_16 : decode cX12_clears 16 = .ok (.iload_n 2, 1) := by decide +kernel
theorem dX12_clears_17 : decode cX12_clears 17 = .ok (.iadd, 1) := by decide +kernel
theorem dX12_clears_18 : decode cX12_clears 18 = .ok (.bipush (-2), 2) := by decide +kernel
theorem dX12_clears_20 : decode cX12_clears 20 = .ok (.iastore, 1) := by decide +kernel
theorem dX12_clears_21 : decode cX12_clears 21 = .ok (.iinc 2 1, 3) := by decide +kernel
theorem dX12_clears_24 : decode cX12_clears 24 = .ok (.goto (-22), 3) := by decide +kernel
theorem dX12_clears_27 : decode cX12_clears 27 = .ok (.iconst 0, 1) := by decide +kernel
theorem dX12_clears_28 : decode cX12_clears 28 = .ok (.istore_n 2, 1) := by decide +kernel
theorem dX12_clears_29 : decode cX12_clears 29 = .ok (.iload_n 2, 1) := by decide +kernel
theorem dX12_clears_30 : decode cX12_clears 30 = .ok (.bipush 10, 2) := by decide +kernel
theorem dX12_clears_32 : decode cX12_clears 32 = .ok (.if_icmp .ge 45, 3) := by decide +kernel
theorem dX12_clears_35 : decode cX12_clears 35 = .ok (.aload_n 0, 1) := by decide +kernel
theorem dX12_clears_36 : decode cX12_clears 36 = .ok (.getfield 130, 3) := by decide +kernel
theorem dX12_clears_39 : decode cX12_clears 39 = .ok (.bipush 10, 2) := by decide +kernel
theorem dX12_clears_41 : decode cX12_clears 41 = .ok (.iload_n 1, 1) := by decide +kernel
theorem dX12_clears_42 : decode cX12_clears 42 = .ok (.imul, 1) := by decide +kernel
theorem dX12_clears_43 : decode cX12_clears 43 = .ok (.iload_n 2, 1) := by decide +kernel
theorem dX12_clears_44 : decode cX12_clears 44 = .ok (.iadd, 1) := by decide +kernel
theorem dX12_clears_45 : decode cX12_clears 45 = .ok (.iconst (-1), 1) := by decide +kernel
theorem dX12_clears_46 : decode cX12_clears 46 = .ok (.iastore, 1) := by decide +kernel
theorem dX12_clears_47 : decode cX12_clears 47 = .ok (.aload_n 0, 1) := by decide +kernel
theorem dX12_clears_48 : decode cX12_clears 48 = .ok (.getfield 133, 3) := by decide +kernel
theorem dX12_clears_51 : decode cX12_clears 51 = .ok (.bipush 10, 2) := by decide +kernel
theorem dX12_clears_53 : decode cX12_clears 53 = .ok (.iload_n 1, 1) := by decide +kernel
theorem dX12_clears_54 : decode cX12_clears 54 = .ok (.imul, 1) := by decide +kernel
theorem dX12_clears_55 : decode cX12_clears 55 = .ok (.iload_n 2, 1) := by decide +kernel
theorem dX12_clears_56 : decode cX12_clears 56 = .ok (.iadd, 1) := by decide +kernel
theorem dX12_clears_57 : decode cX12_clears 57 = .ok (.iconst 0, 1) := by decide +kernel
theorem dX12_clears_58 : decode cX12_clears 58 = .ok (.iastore, 1) := by decide +kernel
theorem dX12_clears_59 : decode cX12_clears 59 = .ok (.aload_n 0, 1) := by decide +kernel
theorem dX12_clears_60 : decode cX12_clears 60 = .ok (.getfield 136, 3) := by decide +kernel
theorem dX12_clears_63 : decode cX12_clears 63 = .ok (.bipush 10, 2) := by decide +kernel
theorem dX12_clears_65 : decode cX12_clears 65 = .ok (.iload_n 1, 1) := by decide +kernel
theorem dX12_clears_66 : decode cX12_clears 66 = .ok (.imul, 1) := by decide +kernel
theorem dX12_clears_67 : decode cX12_clears 67 = .ok (.iload_n 2, 1) := by decide +kernel
theorem dX12_clears_68 : decode cX12_clears 68 = .ok (.iadd, 1) := by decide +kernel
theorem dX12_clears_69 : decode cX12_clears 69 = .ok (.iconst 0, 1) := by decide +kernel
theorem dX12_clears_70 : decode cX12_clears 70 = .ok (.iastore, 1) := by decide +kernel
theorem dX12_clears_71 : decode cX12_clears 71 = .ok (.iinc 2 1, 3) := by decide +kernel
theorem dX12_clears_74 : decode cX12_clears 74 = .ok (.goto (-45), 3) := by decide +kernel
theorem dX12_clears_77 : decode cX12_clears 77 = .ok (.return_, 1) := by decide +kernel
theorem dX12_copies_0 : decode cX12_copies 0 = .ok (.iconst 0, 1) := by decide +kernel
theorem dX12_copies_1 : decode cX12_copies 1 = .ok (.istore_n 3, 1) := by decide +kernel
theorem dX12_copies_2 : decode cX12_copies 2 = .ok (.iload_n 3, 1) := by decide +kernel
theorem dX12_copies_3 : decode cX12_copies 3 = .ok (.bipush 6, 2) := by decide +kernel
theorem dX12_copies_5 : decode cX12_copies 5 = .ok (.if_icmp .ge 31, 3) := by decide +kernel
theorem dX12_copies_8 : decode cX12_copies 8 = .ok (.aload_n 0, 1) := by decide +kernel
theorem dX12_copies_9 : decode cX12_copies 9 = .ok (.getfield 127, 3) := by decide +kernel
theorem dX12_copies_12 : decode cX12_copies 12 = .ok (.bipush 6, 2) := by decide +kernel
theorem dX12_copies_14 : decode cX12_copies 14 = .ok (.iload_n 2, 1) := by decide +kernel
theorem dX12_copies_15 : decode cX12_copies 15 = .ok (.imul, 1) := by decide +kernel
theorem dX12_copies_16 : decode cX12_copies 16 = .ok (.iload_n 3, 1) := by decide +kernel
theorem dX12_copies_17 : decode cX12_copies 17 = .ok (.iadd, 1) := by decide +kernel
theorem dX12_copies_18 : decode cX12_copies 18 = .ok (.aload_n 0, 1) := by decide +kernel
theorem dX12_copies_19 : decode cX12_copies 19 = .ok (.getfield 127, 3) := by decide +kernel
theorem dX12_copies_22 : decode cX12_copies 22 = .ok (.bipush 6, 2) := by decide +kernel
theorem dX12_copies_24 : decode cX12_copies 24 = .ok (.iload_n 1, 1) := by decide +kernel
theorem dX12_copies_25 : decode cX12_copies 25 = .ok (.imul, 1) := by decide +kernel
theorem dX12_copies_26 : decode cX12_copies 26 = .ok (.iload_n 3, 1) := by decide +kernel
theorem dX12_copies_27 : decode cX12_copies 27 = .ok (.iadd, 1) := by decide +kernel
theorem dX12_copies_28 : decode cX12_copies 28 = .ok (.iaload, 1) := by decide +kernel
theorem dX12_copies_29 : decode cX12_copies 29 = .ok (.iastore, 1) := by decide +kernel
theorem dX12_copies_30 : decode cX12_copies 30 = .ok (.iinc 3 1, 3) := by decide +kernel
theorem dX12_copies_33 : decode cX12_copies 33 = .ok (.goto (-31), 3) := by decide +kernel
theorem dX12_copies_36 : decode cX12_copies 36 = .ok (.iconst 0, 1) := by decide +kernel
theorem dX12_copies_37 : decode cX12_copies 37 = .ok (.istore_n 3, 1) := by decide +kernel
theorem dX12_copies_38 : decode cX12_copies 38 = .ok (.iload_n 3, 1) := by decide +kernel
theorem dX12_copies_39 : decode cX12_copies 39 = .ok (.bipush 10, 2) := by decide +kernel
theorem dX12_copies_41 : decode cX12_copies 41 = .ok (.if_icmp .ge 17, 3) := by decide +kernel
theorem dX12_copies_44 : decode cX12_copies 44 = .ok (.aload_n 0, 1) := by decide +kernel
theorem dX12_copies_45 : decode cX12_copies 45 = .ok (.iload_n 1, 1) := by decide +kernel
theorem dX12_copies_46 : decode cX12_copies 46 = .ok (.iload_n 3, 1) := by decide +kernel
theorem dX12_copies_47 : decode cX12_copies 47 = .ok (.iload_n 2, 1) := by decide +kernel
theorem dX12_copies_48 : decode cX12_copies 48 = .ok (.iload_n 3, 1) := by decide +kernel
theorem dX12_copies_49 : decode cX12_copies 49 = .ok (.invokevirtual 381, 3) := by decide +kernel
theorem dX12_copies_52 : decode cX12_copies 52 = .ok (.iinc 3 1, 3) := by decide +kernel
theorem dX12_copies_55 : decode cX12_copies 55 = .ok (.goto (-17), 3) := by decide +kernel
theorem dX12_copies_58 : decode cX12_copies 58 = .ok (.return_, 1) := by decide +kernel
theorem dX12_moves_0 : decode cX12_moves 0 = .ok (.aload_n 0, 1) := by decide +kernel
theorem dX12_moves_1 : decode cX12_moves 1 = .ok (.getfield 130, 3) := by decide +kernel
theorem dX12_moves_4 : decode cX12_moves 4 = .ok (.bipush 10, 2) := by decide +kernel
theorem dX12_moves_6 : decode cX12_moves 6 = .ok (.iload_n 3, 1) := by decide +kernel
theorem dX12_moves_7 : decode cX12_moves 7 = .ok (.imul, 1) := by decide +kernel
theorem dX12_moves_8 : decode cX12_moves 8 = .ok (.iload 4, 2) := by decide +kernel
theorem dX12_moves_10 : decode cX12_moves 10 = .ok (.iadd, 1) := by decide +kernel
theorem dX12_moves_11 : decode cX12_moves 11 = .ok (.aload_n 0, 1) := by decide +kernel
theorem dX12_moves_12 : decode cX12_moves 12 = .ok (.getfield 130, 3) := by decide +kernel
theorem dX12_moves_15 : decode cX12_moves 15 = .ok (.bipush 10, 2) := by decide +kernel
theorem dX12_moves_17 : decode cX12_moves 17 = .ok (.iload_n 1, 1) := by decide +kernel
theorem dX12_moves_18 : decode cX12_moves 18 = .ok (.imul, 1) := by decide +kernel
theorem dX12_moves_19 : decode cX12_moves 19 = .ok (.iload_n 2, 1) := by decide +kernel
theorem dX12_moves_20 : decode cX12_moves 20 = .ok (.iadd, 1) := by decide +kernel
theorem dX12_moves_21 : decode cX12_moves 21 = .ok (.iaload, 1) := by decide +kernel
theorem dX12_moves_22 : decode cX12_moves 22 = .ok (.iastore, 1) := by decide +kernel
theorem dX12_moves_23 : decode cX12_moves 23 = .ok (.aload_n 0, 1) := by decide +kernel
theorem dX12_moves_24 : decode cX12_moves 24 = .ok (.getfield 133, 3) := by decide +kernel
theorem dX12_moves_27 : decode cX12_moves 27 = .ok (.bipush 10, 2) := by decide +kernel
theorem dX12_moves_29 : decode cX12_moves 29 = .ok (.iload_n 3, 1) := by decide +kernel
theorem dX12_moves_30 : decode cX12_moves 30 = .ok (.imul, 1) := by decide +kernel
theorem dX12_moves_31 : decode cX12_moves 31 = .ok (.iload 4, 2) := by decide +kernel
theorem dX12_moves_33 : decode cX12_moves 33 = .ok (.iadd, 1) := by decide +kernel
theorem dX12_moves_34 : decode cX12_moves 34 = .ok (.aload_n 0, 1) := by decide +kernel
theorem dX12_moves_35 : decode cX12_moves 35 = .ok (.getfield 133, 3) := by decide +kernel
theorem dX12_moves_38 : decode cX12_moves 38 = .ok (.bipush 10, 2) := by decide +kernel
theorem dX12_moves_40 : decode cX12_moves 40 = .ok (.iload_n 1, 1) := by decide +kernel
theorem dX12_moves_41 : decode cX12_moves 41 = .ok (.imul, 1) := by decide +kernel
theorem dX12_moves_42 : decode cX12_moves 42 = .ok (.iload_n 2, 1) := by decide +kernel
theorem dX12_moves_43 : decode cX12_moves 43 = .ok (.iadd, 1) := by decide +kernel
theorem dX12_moves_44 : decode cX12_moves 44 = .ok (.iaload, 1) := by decide +kernel
theorem dX12_moves_45 : decode cX12_moves 45 = .ok (.iastore, 1) := by decide +kernel
theorem dX12_moves_46 : decode cX12_moves 46 = .ok (.aload_n 0, 1) := by decide +kernel
theorem dX12_moves_47 : decode cX12_moves 47 = .ok (.getfield 136, 3) := by decide +kernel
theorem dX12_moves_50 : decode cX12_moves 50 = .ok (.bipush 10, 2) := by decide +kernel
theorem dX12_moves_52 : decode cX12_moves 52 = .ok (.iload_n 3, 1) := by decide +kernel
theorem dX12_moves_53 : decode cX12_moves 53 = .ok (.imul, 1) := by decide +kernel
theorem dX12_moves_54 : decode cX12_moves 54 = .ok (.iload 4, 2) := by decide +kernel
theorem dX12_moves_56 : decode cX12_moves 56 = .ok (.iadd, 1) := by decide +kernel
theorem dX12_moves_57 : decode cX12_moves 57 = .ok (.aload_n 0, 1) := by decide +kernel
theorem dX12_moves_58 : decode cX12_moves 58 = .ok (.getfield 136, 3) := by decide +kernel
theorem dX12_moves_61 : decode cX12_moves 61 = .ok (.bipush 10, 2) := by decide +kernel
theorem dX12_moves_63 : decode cX12_moves 63 = .ok (.iload_n 1, 1) := by decide +kernel
theorem dX12_moves_64 : decode cX12_moves 64 = .ok (.imul, 1) := by decide +kernel
theorem dX12_moves_65 : decode cX12_moves 65 = .ok (.iload_n 2, 1) := by decide +kernel
theorem dX12_moves_66 : decode cX12_moves 66 = .ok (.iadd, 1) := by decide +kernel
theorem dX12_moves_67 : decode cX12_moves 67 = .ok (.iaload, 1) := by decide +kernel
theorem dX12_moves_68 : decode cX12_moves 68 = .ok (.iastore, 1) := by decide +kernel
theorem dX12_moves_69 : decode cX12_moves 69 = .ok (.return_, 1) := by decide +kernel
theorem dX12_shows_0 : decode cX12_shows 0 = .ok (.aload_n 0, 1) := by decide +kernel
theorem dX12_shows_1 : decode cX12_shows 1 = .ok (.getfield 130, 3) := by decide +kernel
theorem dX12_shows_4 : decode cX12_shows 4 = .ok (.bipush 10, 2) := by decide +kernel
theorem dX12_shows_6 : decode cX12_shows 6 = .ok (.iload_n 1, 1) := by decide +kernel
theorem dX12_shows_7 : decode cX12_shows 7 = .ok (.imul, 1) := by decide +kernel
theorem dX12_shows_8 : decode cX12_shows 8 = .ok (.iload_n 2, 1) := by decide +kernel
theorem dX12_shows_9 : decode cX12_shows 9 = .ok (.iadd, 1) := by decide +kernel
theorem dX12_shows_10 : decode cX12_shows 10 = .ok (.iload_n 3, 1) := by decide +kernel
theorem dX12_shows_11 : decode cX12_shows 11 = .ok (.iastore, 1) := by decide +kernel
theorem dX12_shows_12 : decode cX12_shows 12 = .ok (.aload_n 0, 1) := by decide +kernel
theorem dX12_shows_13 : decode cX12_shows 13 = .ok (.getfield 133, 3) := by decide +kernel
theorem dX12_shows_16 : decode cX12_shows 16 = .ok (.bipush 10, 2) := by decide +kernel
theorem dX12_shows_18 : decode cX12_shows 18 = .ok (.iload_n 1, 1) := by decide +kernel
theorem dX12_shows_19 : decode cX12_shows 19 = .ok (.imul, 1) := by decide +kernel
theorem dX12_shows_20 : decode cX12_shows 20 = .ok (.iload_n 2, 1) := by decide +kernel
theorem dX12_shows_21 : decode cX12_shows 21 = .ok (.iadd, 1) := by decide +kernel
theorem dX12_shows_22 : decode cX12_shows 22 = .ok (.iload 4, 2) := by decide +kernel
theorem dX12_shows_24 : decode cX12_shows 24 = .ok (.iastore, 1) := by decide +kernel
theorem dX12_shows_25 : decode cX12_shows 25 = .ok (.aload_n 0, 1) := by decide +kernel
theorem dX12_shows_26 : decode cX12_shows 26 = .ok (.getfield 136, 3) := by decide +kernel
theorem dX12_shows_29 : decode cX12_shows 29 = .ok (.bipush 10, 2) := by decide +kernel
theorem dX12_shows_31 : decode cX12_shows 31 = .ok (.iload_n 1, 1) := by decide +kernel
theorem dX12_shows_32 : decode cX12_shows 32 = .ok (.imul, 1) := by decide +kernel
theorem dX12_shows_33 : decode cX12_shows 33 = .ok (.iload_n 2, 1) := by decide +kernel
theorem dX12_shows_34 : decode cX12_shows 34 = .ok (.iadd, 1) := by decide +kernel
theorem dX12_shows_35 : decode cX12_shows 35 = .ok (.iload 5, 2) := by decide +kernel
theorem dX12_shows_37 : decode cX12_shows 37 = .ok (.iastore, 1) := by decide +kernel
theorem dX12_shows_38 : decode cX12_shows 38 = .ok (.return_, 1) := by decide +kernel
theorem dX12_refsOf_0 : decode cX12_refsOf 0 = .ok (.iconst 1, 1) := by decide +kernel
theorem dX12_refsOf_1 : decode cX12_refsOf 1 = .ok (.istore_n 2, 1) := by decide +kernel
theorem dX12_refsOf_2 : decode cX12_refsOf 2 = .ok (.aload_n 0, 1) := by decide +kernel
theorem dX12_refsOf_3 : decode cX12_refsOf 3 = .ok (.getfield 160, 3) := by decide +kernel
theorem dX12_refsOf_6 : decode cX12_refsOf 6 = .ok (.iconst 0, 1) := by decide +kernel
theorem dX12_refsOf_7 : decode cX12_refsOf 7 = .ok (.iload_n 1, 1) := by decide +kernel
theorem dX12_refsOf_8 : decode cX12_refsOf 8 = .ok (.iastore, 1) := by decide +kernel
theorem dX12_refsOf_9 : decode cX12_refsOf 9 = .ok (.iconst 0, 1) := by decide +kernel
theorem dX12_refsOf_10 : decode cX12_refsOf 10 = .ok (.istore_n 3, 1) := by decide +kernel
theorem dX12_refsOf_11 : decode cX12_refsOf 11 = .ok (.iload_n 2, 1) := by decide +kernel
theorem dX12_refsOf_12 : decode cX12_refsOf 12 = .ok (.ifCond .le 119, 3) := by decide +kernel
theorem dX12_refsOf_15 : decode cX12_refsOf 15 = .ok (.iinc 2 (-1), 3) := by decide +kernel
theorem dX12_refsOf_18 : decode cX12_refsOf 18 = .ok (.aload_n 0, 1) := by decide +kernel
theorem dX12_refsOf_19 : decode cX12_refsOf 19 = .ok (.getfield 160, 3) := by decide +kernel
theorem dX12_refsOf_22 : decode cX12_refsOf 22 = .ok (.iload_n 2, 1) := by decide +kernel
theorem dX12_refsOf_23 : decode cX12_refsOf 23 = .ok (.iaload, 1) := by decide +kernel
theorem dX12_refsOf_24 : decode cX12_refsOf 24 = .ok (.istore 4, 2) := by decide +kernel
theorem dX12_refsOf_26 : decode cX12_refsOf 26 = .ok (.aload_n 0, 1) := by decide +kernel
theorem dX12_refsOf_27 : decode cX12_refsOf 27 = .ok (.getfield 25, 3) := by decide +kernel
theorem dX12_refsOf_30 : decode cX12_refsOf 30 = .ok (.iload 4, 2) := by decide +kernel
theorem dX12_refsOf_32 : decode cX12_refsOf 32 = .ok (.iaload, 1) := by decide +kernel
theorem dX12_refsOf_33 : decode cX12_refsOf 33 = .ok (.invokestatic 309, 3) := by decide +kernel
theorem dX12_refsOf_36 : decode cX12_refsOf 36 = .ok (.istore 5, 2) := by decide +kernel
theorem dX12_refsOf_38 : decode cX12_refsOf 38 = .ok (.iload_n 3, 1) := by decide +kernel
theorem dX12_refsOf_39 : decode cX12_refsOf 39 = .ok (.aload_n 0, 1) := by decide +kernel
theorem dX12_refsOf_40 : decode cX12_refsOf 40 = .ok (.getfield 25, 3) := by decide +kernel
theorem dX12_refsOf_43 : decode cX12_refsOf 43 = .ok (.iload 4, 2) := by decide +kernel
theorem dX12_refsOf_45 : decode cX12_refsOf 45 = .ok (.iaload, 1) := by decide +kernel
theorem dX12_refsOf_46 : decode cX12_refsOf 46 = .ok (.iconst 1, 1) := by decide +kernel
theorem dX12_refsOf_47 : decode cX12_refsOf 47 = .ok (.if_icmp .ne 15, 3) := by decide +kernel
theorem dX12_refsOf_50 : decode cX12_refsOf 50 = .ok (.iconst 1, 1) := by decide +kernel
theorem dX12_refsOf_51 : decode cX12_refsOf 51 = .ok (.aload_n 0, 1) := by decide +kernel
theorem dX12_refsOf_52 : decode cX12_refsOf 52 = .ok (.getfield 28, 3) := by decide +kernel
theorem dX12_refsOf_55 : decode cX12_refsOf 55 = .ok (.iload 4, 2) := by decide +kernel
theorem dX12_refsOf_57 : decode cX12_refsOf 57 = .ok (.iaload, 1) := by decide +kernel
theorem dX12_refsOf_58 : decode cX12_refsOf 58 = .ok (.ishl, 1) := by decide +kernel
theorem dX12_refsOf_59 : decode cX12_refsOf 59 = .ok (.goto 4, 3) := by decide +kernel
theorem dX12_refsOf_62 : decode cX12_refsOf 62 = .ok (.iconst 0, 1) := by decide +kernel
theorem dX12_refsOf_63 : decode cX12_refsOf 63 = .ok (.ior, 1) := by decide +kernel
theorem dX12_refsOf_64 : decode cX12_refsOf 64 = .ok (.istore_n 3, 1) := by decide +kernel
theorem dX12_refsOf_65 : decode cX12_refsOf 65 = .ok (.iconst 0, 1) := by decide +kernel
theorem dX12_refsOf_66 : decode cX12_refsOf 66 = .ok (.istore 6, 2) := by decide +kernel
theorem dX12_refsOf_68 : decode cX12_refsOf 68 = .ok (.iload 6, 2) := by decide +kernel
theorem dX12_refsOf_70 : decode cX12_refsOf 70 = .ok (.iload 5, 2) := by decide +kernel
theorem dX12_refsOf_72 : decode cX12_refsOf 72 = .ok (.if_icmp .ge 56, 3) := by decide +kernel
theorem dX12_refsOf_75 : decode cX12_refsOf 75 = .ok (.aload_n 0, 1) := by decide +kernel
theorem dX12_refsOf_76 : decode cX12_refsOf 76 = .ok (.getfield 160, 3) := by decide +kernel
theorem dX12_refsOf_79 : decode cX12_refsOf 79 = .ok (.iload_n 2, 1) := by decide +kernel
theorem dX12_refsOf_80 : decode cX12_refsOf 80 = .ok (.iload 6, 2) := by decide +kernel
theorem dX12_refsOf_82 : decode cX12_refsOf 82 = .ok (.ifCond .ne 13, 3) := by decide +kernel
theorem dX12_refsOf_85 : decode cX12_refsOf 85 = .ok (.aload_n 0, 1) := by decide +kernel
theorem dX12_refsOf_86 : decode cX12_refsOf 86 = .ok (.getfield 28, 3) := by decide +kernel
theorem dX12_refsOf_89 : decode cX12_refsOf 89 = .ok (.iload 4, 2) := by decide +kernel
theorem dX12_refsOf_91 : decode cX12_refsOf 91 = .ok (.iaload, 1) := by decide +kernel
theorem dX12_refsOf_92 : decode cX12_refsOf 92 = .ok (.goto 26, 3) := by decide +kernel
theorem dX12_refsOf_95 : decode cX12_refsOf 95 = .ok (.iload 6, 2) := by decide +kernel
theorem dX12_refsOf_97 : decode cX12_refsOf 97 = .ok (.iconst 1, 1) := by decide +kernel
theorem dX12_refsOf_98 : decode cX12_refsOf 98 = .ok (.if_icmp .ne 13, 3) := by decide +kernel
theorem dX12_refsOf_101 : decode cX12_refsOf 101 = .ok (.aload_n 0, 1) := by decide +kernel
theorem dX12_refsOf_102 : decode cX12_refsOf 102 = .ok (.getfield 31, 3) := by decide +kernel
theorem dX12_refsOf_105 : decode cX12_refsOf 105 = .ok (.iload 4, 2) := by decide +kernel
theorem dX12_refsOf_107 : decode cX12_refsOf 107 = .ok (.iaload, 1) := by decide +kernel
theorem dX12_refsOf_108 : decode cX12_refsOf 108 = .ok (.goto 10, 3) := by decide +kernel
theorem dX12_refsOf_111 : decode cX12_refsOf 111 = .ok (.aload_n 0, 1) := by decide +kernel
theorem dX12_refsOf_112 : decode cX12_refsOf 112 = .ok (.getfield 34, 3) := by decide +kernel
theorem dX12_refsOf_115 : decode cX12_refsOf 115 = .ok (.iload 4, 2) := by decide +kernel
theorem dX12_refsOf_117 : decode cX12_refsOf 117 = .ok (.iaload, 1) := by decide +kernel
theorem dX12_refsOf_118 : decode cX12_refsOf 118 = .ok (.iastore, 1) := by decide +kernel
theorem dX12_refsOf_119 : decode cX12_refsOf 119 = .ok (.iinc 2 1, 3) := by decide +kernel
theorem dX12_refsOf_122 : decode cX12_refsOf 122 = .ok (.iinc 6 1, 3) := by decide +kernel
theorem dX12_refsOf_125 : decode cX12_refsOf 125 = .ok (.goto (-57), 3) := by decide +kernel
theorem dX12_refsOf_128 : decode cX12_refsOf 128 = .ok (.goto (-117), 3) := by decide +kernel
theorem dX12_refsOf_131 : decode cX12_refsOf 131 = .ok (.iload_n 3, 1) := by decide +kernel
theorem dX12_refsOf_132 : decode cX12_refsOf 132 = .ok (.ireturn, 1) := by decide +kernel
theorem dX12_joins_0 : decode cX12_joins 0 = .ok (.aload_n 0, 1) := by decide +kernel
theorem dX12_joins_1 : decode cX12_joins 1 = .ok (.iconst 0, 1) := by decide +kernel
theorem dX12_joins_2 : decode cX12_joins 2 = .ok (.iconst 0, 1) := by decide +kernel
theorem dX12_joins_3 : decode cX12_joins 3 = .ok (.iconst 0, 1) := by decide +kernel
theorem dX12_joins_4 : decode cX12_joins 4 = .ok (.invokevirtual 338, 3) := by decide +kernel
theorem dX12_joins_7 : decode cX12_joins 7 = .ok (.istore_n 3, 1) := by decide +kernel
theorem dX12_joins_8 : decode cX12_joins 8 = .ok (.aload_n 0, 1) := by decide +kernel
theorem dX12_joins_9 : decode cX12_joins 9 = .ok (.getfield 25, 3) := by decide +kernel
theorem dX12_joins_12 : decode cX12_joins 12 = .ok (.iload_n 1, 1) := by decide +kernel
theorem dX12_joins_13 : decode cX12_joins 13 = .ok (.iaload, 1) := by decide +kernel
theorem dX12_joins_14 : decode cX12_joins 14 = .ok (.tableswitch 126 2 6 #[34, 63, 126, 126, 83], 34) := by decide +kernel
theorem dX12_joins_48 : decode cX12_joins 48 = .ok (.aload_n 0, 1) := by decide +kernel
theorem dX12_joins_49 : decode cX12_joins 49 = .ok (.getfield 166, 3) := by decide +kernel
theorem dX12_joins_52 : decode cX12_joins 52 = .ok (.iload_n 2, 1) := by decide +kernel
theorem dX12_joins_53 : decode cX12_joins 53 = .ok (.iaload, 1) := by decide +kernel
theorem dX12_joins_54 : decode cX12_joins 54 = .ok (.iload_n 3, 1) := by decide +kernel
theorem dX12_joins_55 : decode cX12_joins 55 = .ok (.if_icmp .ne 19, 3) := by decide +kernel
theorem dX12_joins_58 : decode cX12_joins 58 = .ok (.aload_n 0, 1) := by decide +kernel
theorem dX12_joins_59 : decode cX12_joins 59 = .ok (.getfield 166, 3) := by decide +kernel
theorem dX12_joins_62 : decode cX12_joins 62 = .ok (.iload_n 2, 1) := by decide +kernel
theorem dX12_joins_63 : decode cX12_joins 63 = .ok (.iconst 1, 1) := by decide +kernel
theorem dX12_joins_64 : decode cX12_joins 64 = .ok (.iadd, 1) := by decide +kernel
theorem dX12_joins_65 : decode cX12_joins 65 = .ok (.iaload, 1) := by decide +kernel
theorem dX12_joins_66 : decode cX12_joins 66 = .ok (.iload_n 3, 1) := by decide +kernel
theorem dX12_joins_67 : decode cX12_joins 67 = .ok (.if_icmp .ne 7, 3) := by decide +kernel
theorem dX12_joins_70 : decode cX12_joins 70 = .ok (.iload_n 3, 1) := by decide +kernel
theorem dX12_joins_71 : decode cX12_joins 71 = .ok (.goto 5, 3) := by decide +kernel
theorem dX12_joins_74 : decode cX12_joins 74 = .ok (.bipush (-2), 2) := by decide +kernel
theorem dX12_joins_76 : decode cX12_joins 76 = .ok (.ireturn, 1) := by decide +kernel
theorem dX12_joins_77 : decode cX12_joins 77 = .ok (.aload_n 0, 1) := by decide +kernel
theorem dX12_joins_78 : decode cX12_joins 78 = .ok (.iconst 3, 1) := by decide +kernel
theorem dX12_joins_79 : decode cX12_joins 79 = .ok (.aload_n 0, 1) := by decide +kernel
theorem dX12_joins_80 : decode cX12_joins 80 = .ok (.getfield 166, 3) := by decide +kernel
theorem dX12_joins_83 : decode cX12_joins 83 = .ok (.iload_n 2, 1) := by decide +kernel
theorem dX12_joins_84 : decode cX12_joins 84 = .ok (.iaload, 1) := by decide +kernel
theorem dX12_joins_85 : decode cX12_joins 85 = .ok (.aload_n 0, 1) := by decide +kernel
theorem dX12_joins_86 : decode cX12_joins 86 = .ok (.getfield 166, 3) := by decide +kernel
theorem dX12_joins_89 : decode cX12_joins 89 = .ok (.iload_n 2, 1) := by decide +kernel
theorem dX12_joins_90 : decode cX12_joins 90 = .ok (.iconst 1, 1) := by decide +kernel
theorem dX12_joins_91 : decode cX12_joins 91 = .ok (.iadd, 1) := by decide +kernel
theorem dX12_joins_92 : decode cX12_joins 92 = .ok (.iaload, 1) := by decide +kernel
theorem dX12_joins_93 : decode cX12_joins 93 = .ok (.invokevirtual 338, 3) := by decide +kernel
theorem dX12_joins_96 : decode cX12_joins 96 = .ok (.ireturn, 1) := by decide +kernel
theorem dX12_joins_97 : decode cX12_joins 97 = .ok (.aload_n 0, 1) := by decide +kernel
theorem dX12_joins_98 : decode cX12_joins 98 = .ok (.getfield 166, 3) := by decide +kernel
theorem dX12_joins_101 : decode cX12_joins 101 = .ok (.iload_n 2, 1) := by decide +kernel
theorem dX12_joins_102 : decode cX12_joins 102 = .ok (.iaload, 1) := by decide +kernel
theorem dX12_joins_103 : decode cX12_joins 103 = .ok (.iload_n 3, 1) := by decide +kernel
theorem dX12_joins_104 : decode cX12_joins 104 = .ok (.if_icmp .ne 33, 3) := by decide +kernel
theorem dX12_joins_107 : decode cX12_joins 107 = .ok (.aload_n 0, 1) := by decide +kernel
theorem dX12_joins_108 : decode cX12_joins 108 = .ok (.getfield 166, 3) := by decide +kernel
theorem dX12_joins_111 : decode cX12_joins 111 = .ok (.iload_n 2, 1) := by decide +kernel
theorem dX12_joins_112 : decode cX12_joins 112 = .ok (.iconst 1, 1) := by decide +kernel
theorem dX12_joins_113 : decode cX12_joins 113 = .ok (.iadd, 1) := by decide +kernel
theorem dX12_joins_114 : decode cX12_joins 114 = .ok (.iaload, 1) := by decide +kernel
theorem dX12_joins_115 : decode cX12_joins 115 = .ok (.aload_n 0, 1) := by decide +kernel
theorem dX12_joins_116 : decode cX12_joins 116 = .ok (.getfield 166, 3) := by decide +kernel
theorem dX12_joins_119 : decode cX12_joins 119 = .ok (.iload_n 2, 1) := by decide +kernel
theorem dX12_joins_120 : decode cX12_joins 120 = .ok (.iconst 2, 1) := by decide +kernel
theorem dX12_joins_121 : decode cX12_joins 121 = .ok (.iadd, 1) := by decide +kernel
theorem dX12_joins_122 : decode cX12_joins 122 = .ok (.iaload, 1) := by decide +kernel
theorem dX12_joins_123 : decode cX12_joins 123 = .ok (.if_icmp .ne 14, 3) := by decide +kernel
theorem dX12_joins_126 : decode cX12_joins 126 = .ok (.aload_n 0, 1) := by decide +kernel
theorem dX12_joins_127 : decode cX12_joins 127 = .ok (.getfield 166, 3) := by decide +kernel
theorem dX12_joins_130 : decode cX12_joins 130 = .ok (.iload_n 2, 1) := by decide +kernel
theorem dX12_joins_131 : decode cX12_joins 131 = .ok (.iconst 1, 1) := by decide +kernel
theorem dX12_joins_132 : decode cX12_joins 132 = .ok (.iadd, 1) := by decide +kernel
theorem dX12_joins_133 : decode cX12_joins 133 = .ok (.iaload, 1) := by decide +kernel
theorem dX12_joins_134 : decode cX12_joins 134 = .ok (.goto 5, 3) := by decide +kernel
theorem dX12_joins_137 : decode cX12_joins 137 = .ok (.bipush (-2), 2) := by decide +kernel
theorem dX12_joins_139 : decode cX12_joins 139 = .ok (.ireturn, 1) := by decide +kernel
theorem dX12_joins_140 : decode cX12_joins 140 = .ok (.aload_n 0, 1) := by decide +kernel
theorem dX12_joins_141 : decode cX12_joins 141 = .ok (.getfield 75, 3) := by decide +kernel
theorem dX12_joins_144 : decode cX12_joins 144 = .ok (.aload_n 0, 1) := by decide +kernel
theorem dX12_joins_145 : decode cX12_joins 145 = .ok (.getfield 166, 3) := by decide +kernel
theorem dX12_joins_148 : decode cX12_joins 148 = .ok (.iload_n 2, 1) := by decide +kernel
theorem dX12_joins_149 : decode cX12_joins 149 = .ok (.iaload, 1) := by decide +kernel
theorem dX12_joins_150 : decode cX12_joins 150 = .ok (.iaload, 1) := by decide +kernel
theorem dX12_joins_151 : decode cX12_joins 151 = .ok (.iconst 3, 1) := by decide +kernel
theorem dX12_joins_152 : decode cX12_joins 152 = .ok (.if_icmp .eq 8, 3) := by decide +kernel
theorem dX12_joins_155 : decode cX12_joins 155 = .ok (.bipush (-2), 2) := by decide +kernel
theorem dX12_joins_157 : decode cX12_joins 157 = .ok (.goto 38, 3) := by decide +kernel
theorem dX12_joins_160 : decode cX12_joins 160 = .ok (.aload_n 0, 1) := by decide +kernel
theorem dX12_joins_161 : decode cX12_joins 161 = .ok (.getfield 25, 3) := by decide +kernel
theorem dX12_joins_164 : decode cX12_joins 164 = .ok (.iload_n 1, 1) := by decide +kernel
theorem dX12_joins_165 : decode cX12_joins 165 = .ok (.iaload, 1) := by decide +kernel
theorem dX12_joins_166 : decode cX12_joins 166 = .ok (.iconst 4, 1) := by decide +kernel
theorem dX12_joins_167 : decode cX12_joins 167 = .ok (.if_icmp .ne 17, 3) := by decide +kernel
theorem dX12_joins_170 : decode cX12_joins 170 = .ok (.aload_n 0, 1) := by decide +kernel
theorem dX12_joins_171 : decode cX12_joins 171 = .ok (.getfield 78, 3) := by decide +kernel
theorem dX12_joins_174 : decode cX12_joins 174 = .ok (.aload_n 0, 1) := by decide +kernel
theorem dX12_joins_175 : decode cX12_joins 175 = .ok (.getfield 166, 3) := by decide +kernel
theorem dX12_joins_178 : decode cX12_joins 178 = .ok (.iload_n 2, 1) := by decide +kernel
theorem dX12_joins_179 : decode cX12_joins 179 = .ok (.iaload, 1) := by decide +kernel
theorem dX12_joins_180 : decode cX12_joins 180 = .ok (.iaload, 1) := by decide +kernel
theorem dX12_joins_181 : decode cX12_joins 181 = .ok (.goto 14, 3) := by decide +kernel
theorem dX12_joins_184 : decode cX12_joins 184 = .ok (.aload_n 0, 1) := by decide +kernel
theorem dX12_joins_185 : decode cX12_joins 185 = .ok (.getfield 81, 3) := by decide +kernel
theorem dX12_joins_188 : decode cX12_joins 188 = .ok (.aload_n 0, 1) := by decide +kernel
theorem dX12_joins_189 : decode cX12_joins 189 = .ok (.getfield 166, 3) := by decide +kernel
theorem dX12_joins_192 : decode cX12_joins 192 = .ok (.iload_n 2, 1) := by decide +kernel
theorem dX12_joins_193 : decode cX12_joins 193 = .ok (.iaload, 1) := by decide +kernel
theorem dX12_joins_194 : decode cX12_joins 194 = .ok (.iaload, 1) := by decide +kernel
theorem dX12_joins_195 : decode cX12_joins 195 = .ok (.ireturn, 1) := by decide +kernel
theorem dX12_typeFor_0 : decode cX12_typeFor 0 = .ok (.iconst 1, 1) := by decide +kernel
theorem dX12_typeFor_1 : decode cX12_typeFor 1 = .ok (.istore_n 3, 1) := by decide +kernel
theorem dX12_typeFor_2 : decode cX12_typeFor 2 = .ok (.iconst 0, 1) := by decide +kernel
theorem dX12_typeFor_3 : decode cX12_typeFor 3 = .ok (.istore 4, 2) := by decide +kernel
theorem dX12_typeFor_5 : decode cX12_typeFor 5 = .ok (.aload_n 0, 1) := by decide +kernel
theorem dX12_typeFor_6 : decode cX12_typeFor 6 = .ok (.getfield 160, 3) := by decide +kernel
theorem dX12_typeFor_9 : decode cX12_typeFor 9 = .ok (.iconst 0, 1) := by decide +kernel
theorem dX12_typeFor_10 : decode cX12_typeFor 10 = .ok (.iload_n 2, 1) := by decide +kernel
theorem dX12_typeFor_11 : decode cX12_typeFor 11 = .ok (.iastore, 1) := by decide +kernel
theorem dX12_typeFor_12 : decode cX12_typeFor 12 = .ok (.aload_n 0, 1) := by decide +kernel
theorem dX12_typeFor_13 : decode cX12_typeFor 13 = .ok (.getfield 163, 3) := by decide +kernel
theorem dX12_typeFor_16 : decode cX12_typeFor 16 = .ok (.iconst 0, 1) := by decide +kernel
theorem dX12_typeFor_17 : decode cX12_typeFor 17 = .ok (.iconst 0, 1) := by decide +kernel
theorem dX12_typeFor_18 : decode cX12_typeFor 18 = .ok (.iastore, 1) := by decide +kernel
theorem dX12_typeFor_19 : decode cX12_typeFor 19 = .ok (.iload_n 3, 1) := by decide +kernel
theorem dX12_typeFor_20 : decode cX12_typeFor 20 = .ok (.ifCond .le 204, 3) := by decide +kernel
theorem dX12_typeFor_23 : decode cX12_typeFor 23 = .ok (.iinc 3 (-1), 3) := by decide +kernel
theorem dX12_typeFor_26 : decode cX12_typeFor 26 = .ok (.aload_n 0, 1) := by decide +kernel
theorem dX12_typeFor_27 : decode cX12_typeFor 27 = .ok (.getfield 160, 3) := by decide +kernel
theorem dX12_typeFor_30 : decode cX12_typeFor 30 = .ok (.iload_n 3, 1) := by decide +kernel
theorem dX12_typeFor_31 : decode cX12_typeFor 31 = .ok (.iaload, 1) := by decide +kernel
theorem dX12_typeFor_32 : decode cX12_typeFor 32 = .ok (.istore 5, 2) := by decide +kernel
theorem dX12_typeFor_34 : decode cX12_typeFor 34 = .ok (.aload_n 0, 1) := by decide +kernel
theorem dX12_typeFor_35 : decode cX12_typeFor 35 = .ok (.getfield 25, 3) := by decide +kernel
theorem dX12_typeFor_38 : decode cX12_typeFor 38 = .ok (.iload 5, 2) := by decide +kernel
theorem dX12_typeFor_40 : decode cX12_typeFor 40 = .ok (.iaload, 1) := by decide +kernel
theorem dX12_typeFor_41 : decode cX12_typeFor 41 = .ok (.invokestatic 309, 3) := by decide +kernel
theorem dX12_typeFor_44 : decode cX12_typeFor 44 = .ok (.istore 6, 2) := by decide +kernel
theorem dX12_typeFor_46 : decode cX12_typeFor 46 = .ok (.iload 6, 2) := by decide +kernel
theorem dX12_typeFor_48 : decode cX12_typeFor 48 = .ok (.ifCond .le 96, 3) := by decide +kernel
theorem dX12_typeFor_51 : decode cX12_typeFor 51 = .ok (.aload_n 0, 1) := by decide +kernel
theorem dX12_typeFor_52 : decode cX12_typeFor 52 = .ok (.getfield 163, 3) := by decide +kernel
theorem dX12_typeFor_55 : decode cX12_typeFor 55 = .ok (.iload_n 3, 1) := by decide +kernel
theorem dX12_typeFor_56 : decode cX12_typeFor 56 = .ok (.iaload, 1) := by decide +kernel
theorem dX12_typeFor_57 : decode cX12_typeFor 57 = .ok (.ifCond .ne 87, 3) := by decide +kernel
theorem dX12_typeFor_60 : decode cX12_typeFor 60 = .ok (.aload_n 0, 1) := by decide +kernel
theorem dX12_typeFor_61 : decode cX12_typeFor 61 = .ok (.getfield 163, 3) := by decide +kernel
theorem dX12_typeFor_64 : decode cX12_typeFor 64 = .ok (.iload_n 3, 1) := by decide +kernel
theorem dX12_typeFor_65 : decode cX12_typeFor 65 = .ok (.iconst 1, 1) := by decide +kernel
theorem dX12_typeFor_66 : decode cX12_typeFor 66 = .ok (.iastore, 1) := by decide +kernel
theorem dX12_typeFor_67 : decode cX12_typeFor 67 = .ok (.iinc 3 1, 3) := by decide +kernel
theorem dX12_typeFor_70 : decode cX12_typeFor 70 = .ok (.iload 6, 2) := by decide +kernel
theorem dX12_typeFor_72 : decode cX12_typeFor 72 = .ok (.iconst 1, 1) := by decide +kernel
theorem dX12_typeFor_73 : decode cX12_typeFor 73 = .ok (.isub, 1) := by decide +kernel
theorem dX12_typeFor_74 : decode cX12_typeFor 74 = .ok (.istore 7, 2) := by decide +kernel
theorem dX12_typeFor_76 : decode cX12_typeFor 76 = .ok (.iload 7, 2) := by decide +kernel
theorem dX12_typeFor_78 : decode cX12_typeFor 78 = .ok (.ifCond .lt 63, 3) := by decide +kernel
theorem dX12_typeFor_81 : decode cX12_typeFor 81 = .ok (.aload_n 0, 1) := by decide +kernel
theorem dX12_typeFor_82 : decode cX12_typeFor 82 = .ok (.getfield 160, 3) := by decide +kernel
theorem dX12_typeFor_85 : decode cX12_typeFor 85 = .ok (.iload_n 3, 1) := by decide +kernel
theorem dX12_typeFor_86 : decode cX12_typeFor 86 = .ok (.iload 7, 2) := by decide +kernel
theorem dX12_typeFor_88 : decode cX12_typeFor 88 = .ok (.ifCond .ne 13, 3) := by decide +kernel
theorem dX12_typeFor_91 : decode cX12_typeFor 91 = .ok (.aload_n 0, 1) := by decide +kernel
theorem dX12_typeFor_92 : decode cX12_typeFor 92 = .ok (.getfield 28, 3) := by decide +kernel
theorem dX12_typeFor_95 : decode cX12_typeFor 95 = .ok (.iload 5, 2) := by decide +kernel
theorem dX12_typeFor_97 : decode cX12_typeFor 97 = .ok (.iaload, 1) := by decide +kernel
theorem dX12_typeFor_98 : decode cX12_typeFor 98 = .ok (.goto 26, 3) := by decide +kernel
theorem dX12_typeFor_101 : decode cX12_typeFor 101 = .ok (.iload 7, 2) := by decide +kernel
theorem dX12_typeFor_103 : decode cX12_typeFor 103 = .ok (.iconst 1, 1) := by decide +kernel
theorem dX12_typeFor_104 : decode cX12_typeFor 104 = .ok (.if_icmp .ne 13, 3) := by decide +kernel
theorem dX12_typeFor_107 : decode cX12_typeFor 107 = .ok (.aload_n 0, 1) := by decide +kernel
theorem dX12_typeFor_108 : decode cX12_typeFor 108 = .ok (.getfield 31, 3) := by decide +kernel
theorem dX12_typeFor_111 : decode cX12_typeFor 111 = .ok (.iload 5, 2) := by decide +kernel
theorem dX12_typeFor_113 : decode cX12_typeFor 113 = .ok (.iaload, 1) := by decide +kernel
theorem dX12_typeFor_114 : decode cX12_typeFor 114 = .ok (.goto 10, 3) := by decide +kernel
theorem dX12_typeFor_117 : decode cX12_typeFor 117 = .ok (.aload_n 0, 1) := by decide +kernel
theorem dX12_typeFor_118 : decode cX12_typeFor 118 = .ok (.getfield 34, 3) := by decide +kernel
theorem dX12_typeFor_121 : decode cX12_typeFor 121 = .ok (.iload 5, 2) := by decide +kernel
theorem dX12_typeFor_123 : decode cX12_typeFor 123 = .ok (.iaload, 1) := by decide +kernel
theorem dX12_typeFor_124 : decode cX12_typeFor 124 = .ok (.iastore, 1) := by decide +kernel
theorem dX12_typeFor_125 : decode cX12_typeFor 125 = .ok (.aload_n 0, 1) := by decide +kernel
theorem dX12_typeFor_126 : decode cX12_typeFor 126 = .ok (.getfield 163, 3) := by decide +kernel
theorem dX12_typeFor_129 : decode cX12_typeFor 129 = .ok (.iload_n 3, 1) := by decide +kernel
theorem dX12_typeFor_130 : decode cX12_typeFor 130 = .ok (.iconst 0, 1) := by decide +kernel
theorem dX12_typeFor_131 : decode cX12_typeFor 131 = .ok (.iastore, 1) := by decide +kernel
theorem dX12_typeFor_132 : decode cX12_typeFor 132 = .ok (.iinc 3 1, 3) := by decide +kernel
theorem dX12_typeFor_135 : decode cX12_typeFor 135 = .ok (.iinc 7 (-1), 3) := by decide +kernel
theorem dX12_typeFor_138 : decode cX12_typeFor 138 = .ok (.goto (-62), 3) := by decide +kernel
theorem dX12_typeFor_141 : decode cX12_typeFor 141 = .ok (.goto 80, 3) := by decide +kernel
theorem dX12_typeFor_144 : decode cX12_typeFor 144 = .ok (.iload 4, 2) := by decide +kernel
theorem dX12_typeFor_146 : decode cX12_typeFor 146 = .ok (.iload 6, 2) := by decide +kernel
theorem dX12_typeFor_148 : decode cX12_typeFor 148 = .ok (.isub, 1) := by decide +kernel
theorem dX12_typeFor_149 : decode cX12_typeFor 149 = .ok (.istore 4, 2) := by decide +kernel
theorem dX12_typeFor_151 : decode cX12_typeFor 151 = .ok (.iload 6, 2) := by decide +kernel
theorem dX12_typeFor_153 : decode cX12_typeFor 153 = .ok (.ifCond .le 14, 3) := by decide +kernel
theorem dX12_typeFor_156 : decode cX12_typeFor 156 = .ok (.aload_n 0, 1) := by decide +kernel
theorem dX12_typeFor_157 : decode cX12_typeFor 157 = .ok (.iload 5, 2) := by decide +kernel
theorem dX12_typeFor_159 : decode cX12_typeFor 159 = .ok (.iload 4, 2) := by decide +kernel
theorem dX12_typeFor_161 : decode cX12_typeFor 161 = .ok (.invokevirtual 385, 3) := by decide +kernel
theorem dX12_typeFor_164 : decode cX12_typeFor 164 = .ok (.goto 35, 3) := by decide +kernel
theorem dX12_typeFor_167 : decode cX12_typeFor 167 = .ok (.aload_n 0, 1) := by decide +kernel
theorem dX12_typeFor_168 : decode cX12_typeFor 168 = .ok (.getfield 25, 3) := by decide +kernel
theorem dX12_typeFor_171 : decode cX12_typeFor 171 = .ok (.iload 5, 2) := by decide +kernel
theorem dX12_typeFor_173 : decode cX12_typeFor 173 = .ok (.iaload, 1) := by decide +kernel
theorem dX12_typeFor_174 : decode cX12_typeFor 174 = .ok (.ifCond .ne 13, 3) := by decide +kernel
theorem dX12_typeFor_177 : decode cX12_typeFor 177 = .ok (.aload_n 0, 1) := by decide +kernel
theorem dX12_typeFor_178 : decode cX12_typeFor 178 = .ok (.iconst 0, 1) := by decide +kernel
theorem dX12_typeFor_179 : decode cX12_typeFor 179 = .ok (.iconst 0, 1) := by decide +kernel
theorem dX12_typeFor_180 : decode cX12_typeFor 180 = .ok (.iconst 0, 1) := by decide +kernel
theorem dX12_typeFor_181 : decode cX12_typeFor 181 = .ok (.invokevirtual 338, 3) := by decide +kernel
theorem dX12_typeFor_184 : decode cX12_typeFor 184 = .ok (.goto 15, 3) := by decide +kernel
theorem dX12_typeFor_187 : decode cX12_typeFor 187 = .ok (.aload_n 0, 1) := by decide +kernel
theorem dX12_typeFor_188 : decode cX12_typeFor 188 = .ok (.iload_n 1, 1) := by decide +kernel
theorem dX12_typeFor_189 : decode cX12_typeFor 189 = .ok (.aload_n 0, 1) := by decide +kernel
theorem dX12_typeFor_190 : decode cX12_typeFor 190 = .ok (.getfield 28, 3) := by decide +kernel
theorem dX12_typeFor_193 : decode cX12_typeFor 193 = .ok (.iload 5, 2) := by decide +kernel
theorem dX12_typeFor_195 : decode cX12_typeFor 195 = .ok (.iaload, 1) := by decide +kernel
theorem dX12_typeFor_196 : decode cX12_typeFor 196 = .ok (.invokevirtual 388, 3) := by decide +kernel
theorem dX12_typeFor_199 : decode cX12_typeFor 199 = .ok (.istore 7, 2) := by decide +kernel
theorem dX12_typeFor_201 : decode cX12_typeFor 201 = .ok (.iload 7, 2) := by decide +kernel
theorem dX12_typeFor_203 : decode cX12_typeFor 203 = .ok (.ifCond .ge 6, 3) := by decide +kernel
theorem dX12_typeFor_206 : decode cX12_typeFor 206 = .ok (.iload 7, 2) := by decide +kernel
theorem dX12_typeFor_208 : decode cX12_typeFor 208 = .ok (.ireturn, 1) := by decide +kernel
theorem dX12_typeFor_209 : decode cX12_typeFor 209 = .ok (.aload_n 0, 1) := by decide +kernel
theorem dX12_typeFor_210 : decode cX12_typeFor 210 = .ok (.getfield 166, 3) := by decide +kernel
theorem dX12_typeFor_213 : decode cX12_typeFor 213 = .ok (.iload 4, 2) := by decide +kernel
theorem dX12_typeFor_215 : decode cX12_typeFor 215 = .ok (.iload 7, 2) := by decide +kernel
theorem dX12_typeFor_217 : decode cX12_typeFor 217 = .ok (.iastore, 1) := by decide +kernel
theorem dX12_typeFor_218 : decode cX12_typeFor 218 = .ok (.iinc 4 1, 3) := by decide +kernel
theorem dX12_typeFor_221 : decode cX12_typeFor 221 = .ok (.goto (-202), 3) := by decide +kernel
theorem dX12_typeFor_224 : decode cX12_typeFor 224 = .ok (.aload_n 0, 1) := by decide +kernel
theorem dX12_typeFor_225 : decode cX12_typeFor 225 = .ok (.getfield 166, 3) := by decide +kernel
theorem dX12_typeFor_228 : decode cX12_typeFor 228 = .ok (.iconst 0, 1) := by decide +kernel
theorem dX12_typeFor_229 : decode cX12_typeFor 229 = .ok (.iaload, 1) := by decide +kernel
theorem dX12_typeFor_230 : decode cX12_typeFor 230 = .ok (.ireturn, 1) := by decide +kernel
theorem dX12_unitFace_0 : decode cX12_unitFace 0 = .ok (.iconst 0, 1) := by decide +kernel
theorem dX12_unitFace_1 : decode cX12_unitFace 1 = .ok (.istore_n 3, 1) := by decide +kernel
theorem dX12_unitFace_2 : decode cX12_unitFace 2 = .ok (.iconst 0, 1) := by decide +kernel
theorem dX12_unitFace_3 : decode cX12_unitFace 3 = .ok (.istore 4, 2) := by decide +kernel
theorem dX12_unitFace_5 : decode cX12_unitFace 5 = .ok (.iconst 0, 1) := by decide +kernel
theorem dX12_unitFace_6 : decode cX12_unitFace 6 = .ok (.istore 5, 2) := by decide +kernel
theorem dX12_unitFace_8 : decode cX12_unitFace 8 = .ok (.iload 5, 2) := by decide +kernel
theorem dX12_unitFace_10 : decode cX12_unitFace 10 = .ok (.bipush 6, 2) := by decide +kernel
theorem dX12_unitFace_12 : decode cX12_unitFace 12 = .ok (.if_icmp .ge 82, 3) := by decide +kernel
theorem dX12_unitFace_15 : decode cX12_unitFace 15 = .ok (.aload_n 0, 1) := by decide +kernel
theorem dX12_unitFace_16 : decode cX12_unitFace 16 = .ok (.getfield 43, 3) := by decide +kernel
theorem dX12_unitFace_19 : decode cX12_unitFace 19 = .ok (.bipush 6, 2) := by decide +kernel
theorem dX12_unitFace_21 : decode cX12_unitFace 21 = .ok (.iload_n 2, 1) := by decide +kernel
theorem dX12_unitFace_22 : decode cX12_unitFace 22 = .ok (.imul, 1) := by decide +kernel
theorem dX12_unitFace_23 : decode cX12_unitFace 23 = .ok (.iload 5, 2) := by decide +kernel
theorem dX12_unitFace_25 : decode cX12_unitFace 25 = .ok (.iadd, 1) := by decide +kernel
theorem dX12_unitFace_26 : decode cX12_unitFace 26 = .ok (.iaload, 1) := by decide +kernel
theorem dX12_unitFace_27 : decode cX12_unitFace 27 = .ok (.istore 6, 2) := by decide +kernel
theorem dX12_unitFace_29 : decode cX12_unitFace 29 = .ok (.iload 4, 2) := by decide +kernel
theorem dX12_unitFace_31 : decode cX12_unitFace 31 = .ok (.iload 6, 2) := by decide +kernel
theorem dX12_unitFace_33 : decode cX12_unitFace 33 = .ok (.bipush (-2), 2) := by decide +kernel
theorem dX12_unitFace_35 : decode cX12_unitFace 35 = .ok (.if_icmp .ne 7, 3) := by decide +kernel
theorem dX12_unitFace_38 : decode cX12_unitFace 38 = .ok (.iconst 0, 1) := by decide +kernel
theorem dX12_unitFace_39 : decode cX12_unitFace 39 = .ok (.goto 7, 3) := by decide +kernel
theorem dX12_unitFace_42 : decode cX12_unitFace 42 = .ok (.iconst 1, 1) := by decide +kernel
theorem dX12_unitFace_43 : decode cX12_unitFace 43 = .ok (.iload 5, 2) := by decide +kernel
theorem dX12_unitFace_45 : decode cX12_unitFace 45 = .ok (.ishl, 1) := by decide +kernel
theorem dX12_unitFace_46 : decode cX12_unitFace 46 = .ok (.ior, 1) := by decide +kernel
theorem dX12_unitFace_47 : decode cX12_unitFace 47 = .ok (.istore 4, 2) := by decide +kernel
theorem dX12_unitFace_49 : decode cX12_unitFace 49 = .ok (.iload_n 3, 1) := by decide +kernel
theorem dX12_unitFace_50 : decode cX12_unitFace 50 = .ok (.iload 6, 2) := by decide +kernel
theorem dX12_unitFace_52 : decode cX12_unitFace 52 = .ok (.ifCond .lt 10, 3) := by decide +kernel
theorem dX12_unitFace_55 : decode cX12_unitFace 55 = .ok (.iconst 1, 1) := by decide +kernel
theorem dX12_unitFace_56 : decode cX12_unitFace 56 = .ok (.iload 5, 2) := by decide +kernel
theorem dX12_unitFace_58 : decode cX12_unitFace 58 = .ok (.ishl, 1) := by decide +kernel
theorem dX12_unitFace_59 : decode cX12_unitFace 59 = .ok (.goto 4, 3) := by decide +kernel
theorem dX12_unitFace_62 : decode cX12_unitFace 62 = .ok (.iconst 0, 1) := by decide +kernel
theorem dX12_unitFace_63 : decode cX12_unitFace 63 = .ok (.ior, 1) := by decide +kernel
theorem dX12_unitFace_64 : decode cX12_unitFace 64 = .ok (.istore_n 3, 1) := by decide +kernel
theorem dX12_unitFace_65 : decode cX12_unitFace 65 = .ok (.aload_n 0, 1) := by decide +kernel
theorem dX12_unitFace_66 : decode cX12_unitFace 66 = .ok (.getfield 148, 3) := by decide +kernel
theorem dX12_unitFace_69 : decode cX12_unitFace 69 = .ok (.iload 5, 2) := by decide +kernel
theorem dX12_unitFace_71 : decode cX12_unitFace 71 = .ok (.iload 6, 2) := by decide +kernel
theorem dX12_unitFace_73 : decode cX12_unitFace 73 = .ok (.ifCond .lt 13, 3) := by decide +kernel
theorem dX12_unitFace_76 : decode cX12_unitFace 76 = .ok (.aload_n 0, 1) := by decide +kernel
theorem dX12_unitFace_77 : decode cX12_unitFace 77 = .ok (.getfield 145, 3) := by decide +kernel
theorem dX12_unitFace_80 : decode cX12_unitFace 80 = .ok (.iload 6, 2) := by decide +kernel
theorem dX12_unitFace_82 : decode cX12_unitFace 82 = .ok (.iaload, 1) := by decide +kernel
theorem dX12_unitFace_83 : decode cX12_unitFace 83 = .ok (.goto 4, 3) := by decide +kernel
theorem dX12_unitFace_86 : decode cX12_unitFace 86 = .ok (.iconst (-1), 1) := by decide +kernel
theorem dX12_unitFace_87 : decode cX12_unitFace 87 = .ok (.iastore, 1) := by decide +kernel
theorem dX12_unitFace_88 : decode cX12_unitFace 88 = .ok (.iinc 5 1, 3) := by decide +kernel
theorem dX12_unitFace_91 : decode cX12_unitFace 91 = .ok (.goto (-83), 3) := by decide +kernel
theorem dX12_unitFace_94 : decode cX12_unitFace 94 = .ok (.iconst 0, 1) := by decide +kernel
theorem dX12_unitFace_95 : decode cX12_unitFace 95 = .ok (.istore 5, 2) := by decide +kernel
theorem dX12_unitFace_97 : decode cX12_unitFace 97 = .ok (.iload 5, 2) := by decide +kernel
theorem dX12_unitFace_99 : decode cX12_unitFace 99 = .ok (.bipush 6, 2) := by decide +kernel
theorem dX12_unitFace_101 : decode cX12_unitFace 101 = .ok (.if_icmp .ge 50, 3) := by decide +kernel
theorem dX12_unitFace_104 : decode cX12_unitFace 104 = .ok (.iload_n 3, 1) := by decide +kernel
theorem dX12_unitFace_105 : decode cX12_unitFace 105 = .ok (.iload 5, 2) := by decide +kernel
theorem dX12_unitFace_107 : decode cX12_unitFace 107 = .ok (.invokestatic 367, 3) := by decide +kernel
theorem dX12_unitFace_110 : decode cX12_unitFace 110 = .ok (.ifCond .eq 35, 3) := by decide +kernel
theorem dX12_unitFace_113 : decode cX12_unitFace 113 = .ok (.aload_n 0, 1) := by decide +kernel
theorem dX12_unitFace_114 : decode cX12_unitFace 114 = .ok (.getfield 22, 3) := by decide +kernel
theorem dX12_unitFace_117 : decode cX12_unitFace 117 = .ok (.aload_n 0, 1) := by decide +kernel
theorem dX12_unitFace_118 : decode cX12_unitFace 118 = .ok (.getfield 43, 3) := by decide +kernel
theorem dX12_unitFace_121 : decode cX12_unitFace 121 = .ok (.bipush 6, 2) := by decide +kernel
theorem dX12_unitFace_123 : decode cX12_unitFace 123 = .ok (.iload_n 2, 1) := by decide +kernel
theorem dX12_unitFace_124 : decode cX12_unitFace 124 = .ok (.imul, 1) := by decide +kernel
theorem dX12_unitFace_125 : decode cX12_unitFace 125 = .ok (.iload 5, 2) := by decide +kernel
theorem dX12_unitFace_127 : decode cX12_unitFace 127 = .ok (.iadd, 1) := by decide +kernel
theorem dX12_unitFace_128 : decode cX12_unitFace 128 = .ok (.iaload, 1) := by decide +kernel
theorem dX12_unitFace_129 : decode cX12_unitFace 129 = .ok (.iaload, 1) := by decide +kernel
theorem dX12_unitFace_130 : decode cX12_unitFace 130 = .ok (.iload 4, 2) := by decide +kernel
theorem dX12_unitFace_132 : decode cX12_unitFace 132 = .ok (.iconst (-1), 1) := by decide +kernel
theorem dX12_unitFace_133 : decode cX12_unitFace 133 = .ok (.ixor, 1) := by decide +kernel
theorem dX12_unitFace_134 : decode cX12_unitFace 134 = .ok (.iand, 1) := by decide +kernel
theorem dX12_unitFace_135 : decode cX12_unitFace 135 = .ok (.ifCond .eq 10, 3) := by decide +kernel
theorem dX12_unitFace_138 : decode cX12_unitFace 138 = .ok (.sipush 150, 3) := by decide +kernel
theorem dX12_unitFace_141 : decode cX12_unitFace 141 = .ok (.iload 5, 2) := by decide +kernel
theorem dX12_unitFace_143 : decode cX12_unitFace 143 = .ok (.iadd, 1) := by decide +kernel
theorem dX12_unitFace_144 : decode cX12_unitFace 144 = .ok (.ireturn, 1) := by decide +kernel
theorem dX12_unitFace_145 : decode cX12_unitFace 145 = .ok (.iinc 5 1, 3) := by decide +kernel
theorem dX12_unitFace_148 : decode cX12_unitFace 148 = .ok (.goto (-51), 3) := by decide +kernel
theorem dX12_unitFace_151 : decode cX12_unitFace 151 = .ok (.aload_n 0, 1) := by decide +kernel
theorem dX12_unitFace_152 : decode cX12_unitFace 152 = .ok (.iload_n 3, 1) := by decide +kernel
theorem dX12_unitFace_153 : decode cX12_unitFace 153 = .ok (.invokevirtual 391, 3) := by decide +kernel
theorem dX12_unitFace_156 : decode cX12_unitFace 156 = .ok (.istore 5, 2) := by decide +kernel
theorem dX12_unitFace_158 : decode cX12_unitFace 158 = .ok (.iload 5, 2) := by decide +kernel
theorem dX12_unitFace_160 : decode cX12_unitFace 160 = .ok (.ifCond .eq 6, 3) := by decide +kernel
theorem dX12_unitFace_163 : decode cX12_unitFace 163 = .ok (.iload 5, 2) := by decide +kernel
theorem dX12_unitFace_165 : decode cX12_unitFace 165 = .ok (.ireturn, 1) := by decide +kernel
theorem dX12_unitFace_166 : decode cX12_unitFace 166 = .ok (.iconst 0, 1) := by decide +kernel
theorem dX12_unitFace_167 : decode cX12_unitFace 167 = .ok (.istore 6, 2) := by decide +kernel
theorem dX12_unitFace_169 : decode cX12_unitFace 169 = .ok (.iload 6, 2) := by decide +kernel
theorem dX12_unitFace_171 : decode cX12_unitFace 171 = .ok (.bipush 6, 2) := by decide +kernel
theorem dX12_unitFace_173 : decode cX12_unitFace 173 = .ok (.if_icmp .ge 56, 3) := by decide +kernel
theorem dX12_unitFace_176 : decode cX12_unitFace 176 = .ok (.aload_n 0, 1) := by decide +kernel
theorem dX12_unitFace_177 : decode cX12_unitFace 177 = .ok (.getfield 127, 3) := by decide +kernel
theorem dX12_unitFace_180 : decode cX12_unitFace 180 = .ok (.bipush 6, 2) := by decide +kernel
theorem dX12_unitFace_182 : decode cX12_unitFace 182 = .ok (.iload_n 1, 1) := by decide +kernel
theorem dX12_unitFace_183 : decode cX12_unitFace 183 = .ok (.imul, 1) := by decide +kernel
theorem dX12_unitFace_184 : decode cX12_unitFace 184 = .ok (.iload 6, 2) := by decide +kernel
theorem dX12_unitFace_186 : decode cX12_unitFace 186 = .ok (.iadd, 1) := by decide +kernel
theorem dX12_unitFace_187 : decode cX12_unitFace 187 = .ok (.iload 4, 2) := by decide +kernel
theorem dX12_unitFace_189 : decode cX12_unitFace 189 = .ok (.iload 6, 2) := by decide +kernel
theorem dX12_unitFace_191 : decode cX12_unitFace 191 = .ok (.invokestatic 367, 3) := by decide +kernel
theorem dX12_unitFace_194 : decode cX12_unitFace 194 = .ok (.ifCond .ne 8, 3) := by decide +kernel
theorem dX12_unitFace_197 : decode cX12_unitFace 197 = .ok (.bipush (-2), 2) := by decide +kernel
theorem dX12_unitFace_199 : decode cX12_unitFace 199 = .ok (.goto 23, 3) := by decide +kernel
theorem dX12_unitFace_202 : decode cX12_unitFace 202 = .ok (.iload_n 3, 1) := by decide +kernel
theorem dX12_unitFace_203 : decode cX12_unitFace 203 = .ok (.iload 6, 2) := by decide +kernel
theorem dX12_unitFace_205 : decode cX12_unitFace 205 = .ok (.invokestatic 367, 3) := by decide +kernel
theorem dX12_unitFace_208 : decode cX12_unitFace 208 = .ok (.ifCond .eq 13, 3) := by decide +kernel
theorem dX12_unitFace_211 : decode cX12_unitFace 211 = .ok (.aload_n 0, 1) := by decide +kernel
theorem dX12_unitFace_212 : decode cX12_unitFace 212 = .ok (.getfield 151, 3) := by decide +kernel
theorem dX12_unitFace_215 : decode cX12_unitFace 215 = .ok (.iload 6, 2) := by decide +kernel
theorem dX12_unitFace_217 : decode cX12_unitFace 217 = .ok (.iaload, 1) := by decide +kernel
theorem dX12_unitFace_218 : decode cX12_unitFace 218 = .ok (.goto 4, 3) := by decide +kernel
theorem dX12_unitFace_221 : decode cX12_unitFace 221 = .ok (.iconst (-1), 1) := by decide +kernel
theorem dX12_unitFace_222 : decode cX12_unitFace 222 = .ok (.iastore, 1) := by decide +kernel
theorem dX12_unitFace_223 : decode cX12_unitFace 223 = .ok (.iinc 6 1, 3) := by decide +kernel
theorem dX12_unitFace_226 : decode cX12_unitFace 226 = .ok (.goto (-57), 3) := by decide +kernel
theorem dX12_unitFace_229 : decode cX12_unitFace 229 = .ok (.iconst 0, 1) := by decide +kernel
theorem dX12_unitFace_230 : decode cX12_unitFace 230 = .ok (.istore 6, 2) := by decide +kernel
theorem dX12_unitFace_232 : decode cX12_unitFace 232 = .ok (.iload 6, 2) := by decide +kernel
theorem dX12_unitFace_234 : decode cX12_unitFace 234 = .ok (.bipush 10, 2) := by decide +kernel
theorem dX12_unitFace_236 : decode cX12_unitFace 236 = .ok (.if_icmp .ge 222, 3) := by decide +kernel
theorem dX12_unitFace_239 : decode cX12_unitFace 239 = .ok (.bipush 10, 2) := by decide +kernel
theorem dX12_unitFace_241 : decode cX12_unitFace 241 = .ok (.iload_n 2, 1) := by decide +kernel
theorem dX12_unitFace_242 : decode cX12_unitFace 242 = .ok (.imul, 1) := by decide +kernel
theorem dX12_unitFace_243 : decode cX12_unitFace 243 = .ok (.iload 6, 2) := by decide +kernel
theorem dX12_unitFace_245 : decode cX12_unitFace 245 = .ok (.iadd, 1) := by decide +kernel
theorem dX12_unitFace_246 : decode cX12_unitFace 246 = .ok (.istore 7, 2) := by decide +kernel
theorem dX12_unitFace_248 : decode cX12_unitFace 248 = .ok (.aload_n 0, 1) := by decide +kernel
theorem dX12_unitFace_249 : decode cX12_unitFace 249 = .ok (.getfield 46, 3) := by decide +kernel
theorem dX12_unitFace_252 : decode cX12_unitFace 252 = .ok (.iload 7, 2) := by decide +kernel
theorem dX12_unitFace_254 : decode cX12_unitFace 254 = .ok (.iaload, 1) := by decide +kernel
theorem dX12_unitFace_255 : decode cX12_unitFace 255 = .ok (.iconst (-1), 1) := by decide +kernel
theorem dX12_unitFace_256 : decode cX12_unitFace 256 = .ok (.if_icmp .eq 196, 3) := by decide +kernel
theorem dX12_unitFace_259 : decode cX12_unitFace 259 = .ok (.aload_n 0, 1) := by decide +kernel
theorem dX12_unitFace_260 : decode cX12_unitFace 260 = .ok (.getfield 22, 3) := by decide +kernel
theorem dX12_unitFace_263 : decode cX12_unitFace 263 = .ok (.aload_n 0, 1) := by decide +kernel
theorem dX12_unitFace_264 : decode cX12_unitFace 264 = .ok (.getfield 46, 3) := by decide +kernel
theorem dX12_unitFace_267 : decode cX12_unitFace 267 = .ok (.iload 7, 2) := by decide +kernel
theorem dX12_unitFace_269 : decode cX12_unitFace 269 = .ok (.iaload, 1) := by decide +kernel
theorem dX12_unitFace_270 : decode cX12_unitFace 270 = .ok (.iaload, 1) := by decide +kernel
theorem dX12_unitFace_271 : decode cX12_unitFace 271 = .ok (.iload 4, 2) := by decide +kernel
theorem dX12_unitFace_273 : decode cX12_unitFace 273 = .ok (.iconst (-1), 1) := by decide +kernel
theorem dX12_unitFace_274 : decode cX12_unitFace 274 = .ok (.ixor, 1) := by decide +kernel
theorem dX12_unitFace_275 : decode cX12_unitFace 275 = .ok (.iand, 1) := by decide +kernel
theorem dX12_unitFace_276 : decode cX12_unitFace 276 = .ok (.ifCond .eq 9, 3) := by decide +kernel
theorem dX12_unitFace_279 : decode cX12_unitFace 279 = .ok (.bipush 100, 2) := by decide +kernel
theorem dX12_unitFace_281 : decode cX12_unitFace 281 = .ok (.iload 6, 2) := by decide +kernel
theorem dX12_unitFace_283 : decode cX12_unitFace 283 = .ok (.iadd, 1) := by decide +kernel
theorem dX12_unitFace_284 : decode cX12_unitFace 284 = .ok (.ireturn, 1) := by decide +kernel
theorem dX12_unitFace_285 : decode cX12_unitFace 285 = .ok (.aload_n 0, 1) := by decide +kernel
theorem dX12_unitFace_286 : decode cX12_unitFace 286 = .ok (.iconst 0, 1) := by decide +kernel
theorem dX12_unitFace_287 : decode cX12_unitFace 287 = .ok (.aload_n 0, 1) := by decide +kernel
theorem dX12_unitFace_288 : decode cX12_unitFace 288 = .ok (.getfield 145, 3) := by decide +kernel
theorem dX12_unitFace_291 : decode cX12_unitFace 291 = .ok (.aload_n 0, 1) := by decide +kernel
theorem dX12_unitFace_292 : decode cX12_unitFace 292 = .ok (.getfield 46, 3) := by decide +kernel
theorem dX12_unitFace_295 : decode cX12_unitFace 295 = .ok (.iload 7, 2) := by decide +kernel
theorem dX12_unitFace_297 : decode cX12_unitFace 297 = .ok (.iaload, 1) := by decide +kernel
theorem dX12_unitFace_298 : decode cX12_unitFace 298 = .ok (.iaload, 1) := by decide +kernel
theorem dX12_unitFace_299 : decode cX12_unitFace 299 = .ok (.invokevirtual 378, 3) := by decide +kernel
theorem dX12_unitFace_302 : decode cX12_unitFace 302 = .ok (.istore 8, 2) := by decide +kernel
theorem dX12_unitFace_304 : decode cX12_unitFace 304 = .ok (.aload_n 0, 1) := by decide +kernel
theorem dX12_unitFace_305 : decode cX12_unitFace 305 = .ok (.getfield 84, 3) := by decide +kernel
theorem dX12_unitFace_308 : decode cX12_unitFace 308 = .ok (.iload 8, 2) := by decide +kernel
theorem dX12_unitFace_310 : decode cX12_unitFace 310 = .ok (.iaload, 1) := by decide +kernel
theorem dX12_unitFace_311 : decode cX12_unitFace 311 = .ok (.sipush 200, 3) := by decide +kernel
theorem dX12_unitFace_314 : decode cX12_unitFace 314 = .ok (.if_icmp .le 10, 3) := by decide +kernel
theorem dX12_unitFace_317 : decode cX12_unitFace 317 = .ok (.sipush 700, 3) := by decide +kernel
theorem dX12_unitFace_320 : decode cX12_unitFace 320 = .ok (.iload 6, 2) := by decide +kernel
theorem dX12_unitFace_322 : decode cX12_unitFace 322 = .ok (.iadd, 1) := by decide +kernel
theorem dX12_unitFace_323 : decode cX12_unitFace 323 = .ok (.ireturn, 1) := by decide +kernel
theorem dX12_unitFace_324 : decode cX12_unitFace 324 = .ok (.aload_n 0, 1) := by decide +kernel
theorem dX12_unitFace_325 : decode cX12_unitFace 325 = .ok (.getfield 49, 3) := by decide +kernel
theorem dX12_unitFace_328 : decode cX12_unitFace 328 = .ok (.iload 7, 2) := by decide +kernel
theorem dX12_unitFace_330 : decode cX12_unitFace 330 = .ok (.iaload, 1) := by decide +kernel
theorem dX12_unitFace_331 : decode cX12_unitFace 331 = .ok (.iconst (-1), 1) := by decide +kernel
theorem dX12_unitFace_332 : decode cX12_unitFace 332 = .ok (.if_icmp .ne 7, 3) := by decide +kernel
theorem dX12_unitFace_335 : decode cX12_unitFace 335 = .ok (.iconst 1, 1) := by decide +kernel
theorem dX12_unitFace_336 : decode cX12_unitFace 336 = .ok (.goto 4, 3) := by decide +kernel
theorem dX12_unitFace_339 : decode cX12_unitFace 339 = .ok (.iconst 0, 1) := by decide +kernel
theorem dX12_unitFace_340 : decode cX12_unitFace 340 = .ok (.istore 9, 2) := by decide +kernel
theorem dX12_unitFace_342 : decode cX12_unitFace 342 = .ok (.iload 9, 2) := by decide +kernel
theorem dX12_unitFace_344 : decode cX12_unitFace 344 = .ok (.ifCond .ne 32, 3) := by decide +kernel
theorem dX12_unitFace_347 : decode cX12_unitFace 347 = .ok (.aload_n 0, 1) := by decide +kernel
theorem dX12_unitFace_348 : decode cX12_unitFace 348 = .ok (.getfield 25, 3) := by decide +kernel
theorem dX12_unitFace_351 : decode cX12_unitFace 351 = .ok (.aload_n 0, 1) := by decide +kernel
theorem dX12_unitFace_352 : decode cX12_unitFace 352 = .ok (.getfield 49, 3) := by decide +kernel
theorem dX12_unitFace_355 : decode cX12_unitFace 355 = .ok (.iload 7, 2) := by decide +kernel
theorem dX12_unitFace_357 : decode cX12_unitFace 357 = .ok (.iaload, 1) := by decide +kernel
theorem dX12_unitFace_358 : decode cX12_unitFace 358 = .ok (.iaload, 1) := by decide +kernel
theorem dX12_unitFace_359 : decode cX12_unitFace 359 = .ok (.ifCond .ne 17, 3) := by decide +kernel
theorem dX12_unitFace_362 : decode cX12_unitFace 362 = .ok (.aload_n 0, 1) := by decide +kernel
theorem dX12_unitFace_363 : decode cX12_unitFace 363 = .ok (.getfield 52, 3) := by decide +kernel
theorem dX12_unitFace_366 : decode cX12_unitFace 366 = .ok (.iload 7, 2) := by decide +kernel
theorem dX12_unitFace_368 : decode cX12_unitFace 368 = .ok (.iaload, 1) := by decide +kernel
theorem dX12_unitFace_369 : decode cX12_unitFace 369 = .ok (.ifCond .ne 7, 3) := by decide +kernel
theorem dX12_unitFace_372 : decode cX12_unitFace 372 = .ok (.iconst 1, 1) := by decide +kernel
theorem dX12_unitFace_373 : decode cX12_unitFace 373 = .ok (.goto 4, 3) := by decide +kernel
theorem dX12_unitFace_376 : decode cX12_unitFace 376 = .ok (.iconst 0, 1) := by decide +kernel
theorem dX12_unitFace_377 : decode cX12_unitFace 377 = .ok (.istore 10, 2) := by decide +kernel
theorem dX12_unitFace_379 : decode cX12_unitFace 379 = .ok (.iload 9, 2) := by decide +kernel
theorem dX12_unitFace_381 : decode cX12_unitFace 381 = .ok (.ifCond .eq 7, 3) := by decide +kernel
theorem dX12_unitFace_384 : decode cX12_unitFace 384 = .ok (.iconst 1, 1) := by decide +kernel
theorem dX12_unitFace_385 : decode cX12_unitFace 385 = .ok (.goto 4, 3) := by decide +kernel
theorem dX12_unitFace_388 : decode cX12_unitFace 388 = .ok (.iconst 0, 1) := by decide +kernel
theorem dX12_unitFace_389 : decode cX12_unitFace 389 = .ok (.aload_n 0, 1) := by decide +kernel
theorem dX12_unitFace_390 : decode cX12_unitFace 390 = .ok (.getfield 52, 3) := by decide +kernel
theorem dX12_unitFace_393 : decode cX12_unitFace 393 = .ok (.iload 7, 2) := by decide +kernel
theorem dX12_unitFace_395 : decode cX12_unitFace 395 = .ok (.iaload, 1) := by decide +kernel
theorem dX12_unitFace_396 : decode cX12_unitFace 396 = .ok (.iconst 4, 1) := by decide +kernel
theorem dX12_unitFace_397 : decode cX12_unitFace 397 = .ok (.iand, 1) := by decide +kernel
theorem dX12_unitFace_398 : decode cX12_unitFace 398 = .ok (.ifCond .eq 7, 3) := by decide +kernel
theorem dX12_unitFace_401 : decode cX12_unitFace 401 = .ok (.iconst 2, 1) := by decide +kernel
theorem dX12_unitFace_402 : decode cX12_unitFace 402 = .ok (.goto 4, 3) := by decide +kernel
theorem dX12_unitFace_405 : decode cX12_unitFace 405 = .ok (.iconst 0, 1) := by decide +kernel
theorem dX12_unitFace_406 : decode cX12_unitFace 406 = .ok (.iadd, 1) := by decide +kernel
theorem dX12_unitFace_407 : decode cX12_unitFace 407 = .ok (.iload 10, 2) := by decide +kernel
theorem dX12_unitFace_409 : decode cX12_unitFace 409 = .ok (.ifCond .eq 7, 3) := by decide +kernel
theorem dX12_unitFace_412 : decode cX12_unitFace 412 = .ok (.iconst 4, 1) := by decide +kernel
theorem dX12_unitFace_413 : decode cX12_unitFace 413 = .ok (.goto 4, 3) := by decide +kernel
theorem dX12_unitFace_416 : decode cX12_unitFace 416 = .ok (.iconst 0, 1) := by decide +kernel
theorem dX12_unitFace_417 : decode cX12_unitFace 417 = .ok (.iadd, 1) := by decide +kernel
theorem dX12_unitFace_418 : decode cX12_unitFace 418 = .ok (.istore 11, 2) := by decide +kernel
theorem dX12_unitFace_420 : decode cX12_unitFace 420 = .ok (.aload_n 0, 1) := by decide +kernel
theorem dX12_unitFace_421 : decode cX12_unitFace 421 = .ok (.iload_n 1, 1) := by decide +kernel
theorem dX12_unitFace_422 : decode cX12_unitFace 422 = .ok (.iload 6, 2) := by decide +kernel
theorem dX12_unitFace_424 : decode cX12_unitFace 424 = .ok (.iload 8, 2) := by decide +kernel
theorem dX12_unitFace_426 : decode cX12_unitFace 426 = .ok (.iload 11, 2) := by decide +kernel
theorem dX12_unitFace_428 : decode cX12_unitFace 428 = .ok (.iload 10, 2) := by decide +kernel
theorem dX12_unitFace_430 : decode cX12_unitFace 430 = .ok (.ifCond .eq 18, 3) := by decide +kernel
theorem dX12_unitFace_433 : decode cX12_unitFace 433 = .ok (.aload_n 0, 1) := by decide +kernel
theorem dX12_unitFace_434 : decode cX12_unitFace 434 = .ok (.getfield 28, 3) := by decide +kernel
theorem dX12_unitFace_437 : decode cX12_unitFace 437 = .ok (.aload_n 0, 1) := by decide +kernel
theorem dX12_unitFace_438 : decode cX12_unitFace 438 = .ok (.getfield 49, 3) := by decide +kernel
theorem dX12_unitFace_441 : decode cX12_unitFace 441 = .ok (.iload 7, 2) := by decide +kernel
theorem dX12_unitFace_443 : decode cX12_unitFace 443 = .ok (.iaload, 1) := by decide +kernel
theorem dX12_unitFace_444 : decode cX12_unitFace 444 = .ok (.iaload, 1) := by decide +kernel
theorem dX12_unitFace_445 : decode cX12_unitFace 445 = .ok (.goto 4, 3) := by decide +kernel
theorem dX12_unitFace_448 : decode cX12_unitFace 448 = .ok (.iconst 0, 1) := by decide +kernel
theorem dX12_unitFace_449 : decode cX12_unitFace 449 = .ok (.invokevirtual 394, 3) := by decide +kernel
theorem dX12_unitFace_452 : decode cX12_unitFace 452 = .ok (.iinc 6 1, 3) := by decide +kernel
theorem dX12_unitFace_455 : decode cX12_unitFace 455 = .ok (.goto (-223), 3) := by decide +kernel
theorem dX12_unitFace_458 : decode cX12_unitFace 458 = .ok (.iconst 0, 1) := by decide +kernel
theorem dX12_unitFace_459 : decode cX12_unitFace 459 = .ok (.istore 6, 2) := by decide +kernel
theorem dX12_unitFace_461 : decode cX12_unitFace 461 = .ok (.iload 6, 2) := by decide +kernel
theorem dX12_unitFace_463 : decode cX12_unitFace 463 = .ok (.bipush 10, 2) := by decide +kernel
theorem dX12_unitFace_465 : decode cX12_unitFace 465 = .ok (.if_icmp .ge 48, 3) := by decide +kernel
theorem dX12_unitFace_468 : decode cX12_unitFace 468 = .ok (.aload_n 0, 1) := by decide +kernel
theorem dX12_unitFace_469 : decode cX12_unitFace 469 = .ok (.iload_n 1, 1) := by decide +kernel
theorem dX12_unitFace_470 : decode cX12_unitFace 470 = .ok (.iload 6, 2) := by decide +kernel
theorem dX12_unitFace_472 : decode cX12_unitFace 472 = .ok (.invokevirtual 388, 3) := by decide +kernel
theorem dX12_unitFace_475 : decode cX12_unitFace 475 = .ok (.iconst (-1), 1) := by decide +kernel
theorem dX12_unitFace_476 : decode cX12_unitFace 476 = .ok (.if_icmp .eq 31, 3) := by decide +kernel
theorem dX12_unitFace_479 : decode cX12_unitFace 479 = .ok (.aload_n 0, 1) := by decide +kernel
theorem dX12_unitFace_480 : decode cX12_unitFace 480 = .ok (.iload_n 1, 1) := by decide +kernel
theorem dX12_unitFace_481 : decode cX12_unitFace 481 = .ok (.iload 6, 2) := by decide +kernel
theorem dX12_unitFace_483 : decode cX12_unitFace 483 = .ok (.invokevirtual 398, 3) := by decide +kernel
theorem dX12_unitFace_486 : decode cX12_unitFace 486 = .ok (.ifCond .ne 21, 3) := by decide +kernel
theorem dX12_unitFace_489 : decode cX12_unitFace 489 = .ok (.aload_n 0, 1) := by decide +kernel
theorem dX12_unitFace_490 : decode cX12_unitFace 490 = .ok (.iload_n 1, 1) := by decide +kernel
theorem dX12_unitFace_491 : decode cX12_unitFace 491 = .ok (.iload_n 2, 1) := by decide +kernel
theorem dX12_unitFace_492 : decode cX12_unitFace 492 = .ok (.iload 6, 2) := by decide +kernel
theorem dX12_unitFace_494 : decode cX12_unitFace 494 = .ok (.invokevirtual 401, 3) := by decide +kernel
theorem dX12_unitFace_497 : decode cX12_unitFace 497 = .ok (.istore 7, 2) := by decide +kernel
theorem dX12_unitFace_499 : decode cX12_unitFace 499 = .ok (.iload 7, 2) := by decide +kernel
theorem dX12_unitFace_501 : decode cX12_unitFace 501 = .ok (.ifCond .eq 6, 3) := by decide +kernel
theorem dX12_unitFace_504 : decode cX12_unitFace 504 = .ok (.iload 7, 2) := by decide +kernel
theorem dX12_unitFace_506 : decode cX12_unitFace 506 = .ok (.ireturn, 1) := by decide +kernel
theorem dX12_unitFace_507 : decode cX12_unitFace 507 = .ok (.iinc 6 1, 3) := by decide +kernel
theorem dX12_unitFace_510 : decode cX12_unitFace 510 = .ok (.goto (-49), 3) := by decide +kernel
theorem dX12_unitFace_513 : decode cX12_unitFace 513 = .ok (.iconst 0, 1) := by decide +kernel
theorem dX12_unitFace_514 : decode cX12_unitFace 514 = .ok (.ireturn, 1) := by decide +kernel
theorem dX12_definitionError_0 : decode cX12_definitionError 0 = .ok (.aload_n 0, 1) := by decide +kernel
theorem dX12_definitionError_1 : decode cX12_definitionError 1 = .ok (.getfield 49, 3) := by decide +kernel
theorem dX12_definitionError_4 : decode cX12_definitionError 4 = .ok (.bipush 10, 2) := by decide +kernel
theorem dX12_definitionError_6 : decode cX12_definitionError 6 = .ok (.iload_n 2, 1) := by decide +kernel
theorem dX12_definitionError_7 : decode cX12_definitionError 7 = .ok (.imul, 1) := by decide +kernel
theorem dX12_definitionError_8 : decode cX12_definitionError 8 = .ok (.iload_n 3, 1) := by decide +kernel
theorem dX12_definitionError_9 : decode cX12_definitionError 9 = .ok (.iadd, 1) := by decide +kernel
theorem dX12_definitionError_10 : decode cX12_definitionError 10 = .ok (.iaload, 1) := by decide +kernel
theorem dX12_definitionError_11 : decode cX12_definitionError 11 = .ok (.istore 4, 2) := by decide +kernel
theorem dX12_definitionError_13 : decode cX12_definitionError 13 = .ok (.aload_n 0, 1) := by decide +kernel
theorem dX12_definitionError_14 : decode cX12_definitionError 14 = .ok (.iload_n 1, 1) := by decide +kernel
theorem dX12_definitionError_15 : decode cX12_definitionError 15 = .ok (.iload 4, 2) := by decide +kernel
theorem dX12_definitionError_17 : decode cX12_definitionError 17 = .ok (.invokevirtual 404, 3) := by decide +kernel
theorem dX12_definitionError_20 : decode cX12_definitionError 20 = .ok (.istore 5, 2) := by decide +kernel
theorem dX12_definitionError_22 : decode cX12_definitionError 22 = .ok (.iload 5, 2) := by decide +kernel
theorem dX12_definitionError_24 : decode cX12_definitionError 24 = .ok (.ifCond .lt 14, 3) := by decide +kernel
theorem dX12_definitionError_27 : decode cX12_definitionError 27 = .ok (.iload 5, 2) := by decide +kernel
theorem dX12_definitionError_29 : decode cX12_definitionError 29 = .ok (.aload_n 0, 1) := by decide +kernel
theorem dX12_definitionError_30 : decode cX12_definitionError 30 = .ok (.iload_n 1, 1) := by decide +kernel
theorem dX12_definitionError_31 : decode cX12_definitionError 31 = .ok (.iload_n 3, 1) := by decide +kernel
theorem dX12_definitionError_32 : decode cX12_definitionError 32 = .ok (.invokevirtual 388, 3) := by decide +kernel
theorem dX12_definitionError_35 : decode cX12_definitionError 35 = .ok (.if_icmp .eq 21, 3) := by decide +kernel
theorem dX12_definitionError_38 : decode cX12_definitionError 38 = .ok (.iload 5, 2) := by decide +kernel
theorem dX12_definitionError_40 : decode cX12_definitionError 40 = .ok (.ifCond .ge 9, 3) := by decide +kernel
theorem dX12_definitionError_43 : decode cX12_definitionError 43 = .ok (.iload 5, 2) := by decide +kernel
theorem dX12_definitionError_45 : decode cX12_definitionError 45 = .ok (.ineg, 1) := by decide +kernel
theorem dX12_definitionError_46 : decode cX12_definitionError 46 = .ok (.goto 4, 3) := by decide +kernel
theorem dX12_definitionError_49 : decode cX12_definitionError 49 = .ok (.iconst 2, 1) := by decide +kernel
theorem dX12_definitionError_50 : decode cX12_definitionError 50 = .ok (.bipush 100, 2) := by decide +kernel
theorem dX12_definitionError_52 : decode cX12_definitionError 52 = .ok (.imul, 1) := by decide +kernel
theorem dX12_definitionError_53 : decode cX12_definitionError 53 = .ok (.iload_n 3, 1) := by decide +kernel
theorem dX12_definitionError_54 : decode cX12_definitionError 54 = .ok (.iadd, 1) := by decide +kernel
theorem dX12_definitionError_55 : decode cX12_definitionError 55 = .ok (.ireturn, 1) := by decide +kernel
theorem dX12_definitionError_56 : decode cX12_definitionError 56 = .ok (.aload_n 0, 1) := by decide +kernel
theorem dX12_definitionError_57 : decode cX12_definitionError 57 = .ok (.iload 4, 2) := by decide +kernel
theorem dX12_definitionError_59 : decode cX12_definitionError 59 = .ok (.invokevirtual 407, 3) := by decide +kernel
theorem dX12_definitionError_62 : decode cX12_definitionError 62 = .ok (.istore 6, 2) := by decide +kernel
theorem dX12_definitionError_64 : decode cX12_definitionError 64 = .ok (.iconst 0, 1) := by decide +kernel
theorem dX12_definitionError_65 : decode cX12_definitionError 65 = .ok (.istore 7, 2) := by decide +kernel
theorem dX12_definitionError_67 : decode cX12_definitionError 67 = .ok (.iconst 0, 1) := by decide +kernel
theorem dX12_definitionError_68 : decode cX12_definitionError 68 = .ok (.istore 8, 2) := by decide +kernel
theorem dX12_definitionError_70 : decode cX12_definitionError 70 = .ok (.iload 8, 2) := by decide +kernel
theorem dX12_definitionError_72 : decode cX12_definitionError 72 = .ok (.bipush 10, 2) := by decide +kernel
theorem dX12_definitionError_74 : decode cX12_definitionError 74 = .ok (.if_icmp .ge 41, 3) := by decide +kernel
theorem dX12_definitionError_77 : decode cX12_definitionError 77 = .ok (.iload 7, 2) := by decide +kernel
theorem dX12_definitionError_79 : decode cX12_definitionError 79 = .ok (.ifCond .ne 23, 3) := by decide +kernel
theorem dX12_definitionError_82 : decode cX12_definitionError 82 = .ok (.iload 6, 2) := by decide +kernel
theorem dX12_definitionError_84 : decode cX12_definitionError 84 = .ok (.iload 8, 2) := by decide +kernel
theorem dX12_definitionError_86 : decode cX12_definitionError 86 = .ok (.invokestatic 367, 3) := by decide +kernel
theorem dX12_definitionError_89 : decode cX12_definitionError 89 = .ok (.ifCond .eq 17, 3) := by decide +kernel
theorem dX12_definitionError_92 : decode cX12_definitionError 92 = .ok (.aload_n 0, 1) := by decide +kernel
theorem dX12_definitionError_93 : decode cX12_definitionError 93 = .ok (.iload_n 1, 1) := by decide +kernel
theorem dX12_definitionError_94 : decode cX12_definitionError 94 = .ok (.iload 8, 2) := by decide +kernel
theorem dX12_definitionError_96 : decode cX12_definitionError 96 = .ok (.invokevirtual 410, 3) := by decide +kernel
theorem dX12_definitionError_99 : decode cX12_definitionError 99 = .ok (.ifCond .eq 7, 3) := by decide +kernel
theorem dX12_definitionError_102 : decode cX12_definitionError 102 = .ok (.iconst 1, 1) := by decide +kernel
theorem dX12_definitionError_103 : decode cX12_definitionError 103 = .ok (.goto 4, 3) := by decide +kernel
theorem dX12_definitionError_106 : decode cX12_definitionError 106 = .ok (.iconst 0, 1) := by decide +kernel
theorem dX12_definitionError_107 : decode cX12_definitionError 107 = .ok (.istore 7, 2) := by decide +kernel
theorem dX12_definitionError_109 : decode cX12_definitionError 109 = .ok (.iinc 8 1, 3) := by decide +kernel
theorem dX12_definitionError_112 : decode cX12_definitionError 112 = .ok (.goto (-42), 3) := by decide +kernel
theorem dX12_definitionError_115 : decode cX12_definitionError 115 = .ok (.iload 7, 2) := by decide +kernel
theorem dX12_definitionError_117 : decode cX12_definitionError 117 = .ok (.ifCond .eq 20, 3) := by decide +kernel
theorem dX12_definitionError_120 : decode cX12_definitionError 120 = .ok (.aload_n 0, 1) := by decide +kernel
theorem dX12_definitionError_121 : decode cX12_definitionError 121 = .ok (.iload_n 1, 1) := by decide +kernel
theorem dX12_definitionError_122 : decode cX12_definitionError 122 = .ok (.iload_n 3, 1) := by decide +kernel
theorem dX12_definitionError_123 : decode cX12_definitionError 123 = .ok (.invokevirtual 410, 3) := by decide +kernel
theorem dX12_definitionError_126 : decode cX12_definitionError 126 = .ok (.ifCond .ne 11, 3) := by decide +kernel
theorem dX12_definitionError_129 : decode cX12_definitionError 129 = .ok (.sipush 600, 3) := by decide +kernel
theorem dX12_definitionError_132 : decode cX12_definitionError 132 = .ok (.iload_n 3, 1) := by decide +kernel
theorem dX12_definitionError_133 : decode cX12_definitionError 133 = .ok (.iadd, 1) := by decide +kernel
theorem dX12_definitionError_134 : decode cX12_definitionError 134 = .ok (.goto 4, 3) := by decide +kernel
theorem dX12_definitionError_137 : decode cX12_definitionError 137 = .ok (.iconst 0, 1) := by decide +kernel
theorem dX12_definitionError_138 : decode cX12_definitionError 138 = .ok (.ireturn, 1) := by decide +kernel
theorem dX12_linksTypes_0 : decode cX12_linksTypes 0 = .ok (.iconst 0, 1) := by decide +kernel
theorem dX12_linksTypes_1 : decode cX12_linksTypes 1 = .ok (.istore 4, 2) := by decide +kernel
theorem dX12_linksTypes_3 : decode cX12_linksTypes 3 = .ok (.iconst 0, 1) := by decide +kernel
theorem dX12_linksTypes_4 : decode cX12_linksTypes 4 = .ok (.istore 5, 2) := by decide +kernel
theorem dX12_linksTypes_6 : decode cX12_linksTypes 6 = .ok (.iload 5, 2) := by decide +kernel
theorem dX12_linksTypes_8 : decode cX12_linksTypes 8 = .ok (.bipush 6, 2) := by decide +kernel
theorem dX12_linksTypes_10 : decode cX12_linksTypes 10 = .ok (.if_icmp .ge 69, 3) := by decide +kernel
theorem dX12_linksTypes_13 : decode cX12_linksTypes 13 = .ok (.aload_n 0, 1) := by decide +kernel
theorem dX12_linksTypes_14 : decode cX12_linksTypes 14 = .ok (.iload_n 1, 1) := by decide +kernel
theorem dX12_linksTypes_15 : decode cX12_linksTypes 15 = .ok (.iload 5, 2) := by decide +kernel
theorem dX12_linksTypes_17 : decode cX12_linksTypes 17 = .ok (.invokevirtual 413, 3) := by decide +kernel
theorem dX12_linksTypes_20 : decode cX12_linksTypes 20 = .ok (.istore 6, 2) := by decide +kernel
theorem dX12_linksTypes_22 : decode cX12_linksTypes 22 = .ok (.aload_n 0, 1) := by decide +kernel
theorem dX12_linksTypes_23 : decode cX12_linksTypes 23 = .ok (.iload_n 2, 1) := by decide +kernel
theorem dX12_linksTypes_24 : decode cX12_linksTypes 24 = .ok (.iload 5, 2) := by decide +kernel
theorem dX12_linksTypes_26 : decode cX12_linksTypes 26 = .ok (.invokevirtual 413, 3) := by decide +kernel
theorem dX12_linksTypes_29 : decode cX12_linksTypes 29 = .ok (.istore 7, 2) := by decide +kernel
theorem dX12_linksTypes_31 : decode cX12_linksTypes 31 = .ok (.aload_n 0, 1) := by decide +kernel
theorem dX12_linksTypes_32 : decode cX12_linksTypes 32 = .ok (.getfield 148, 3) := by decide +kernel
theorem dX12_linksTypes_35 : decode cX12_linksTypes 35 = .ok (.iload 5, 2) := by decide +kernel
theorem dX12_linksTypes_37 : decode cX12_linksTypes 37 = .ok (.iload 6, 2) := by decide +kernel
theorem dX12_linksTypes_39 : decode cX12_linksTypes 39 = .ok (.ifCond .lt 8, 3) := by decide +kernel
theorem dX12_linksTypes_42 : decode cX12_linksTypes 42 = .ok (.iload 6, 2) := by decide +kernel
theorem dX12_linksTypes_44 : decode cX12_linksTypes 44 = .ok (.goto 5, 3) := by decide +kernel
theorem dX12_linksTypes_47 : decode cX12_linksTypes 47 = .ok (.iload 7, 2) := by decide +kernel
theorem dX12_linksTypes_49 : decode cX12_linksTypes 49 = .ok (.iastore, 1) := by decide +kernel
theorem dX12_linksTypes_50 : decode cX12_linksTypes 50 = .ok (.iload 4, 2) := by decide +kernel
theorem dX12_linksTypes_52 : decode cX12_linksTypes 52 = .ok (.aload_n 0, 1) := by decide +kernel
theorem dX12_linksTypes_53 : decode cX12_linksTypes 53 = .ok (.getfield 148, 3) := by decide +kernel
theorem dX12_linksTypes_56 : decode cX12_linksTypes 56 = .ok (.iload 5, 2) := by decide +kernel
theorem dX12_linksTypes_58 : decode cX12_linksTypes 58 = .ok (.iaload, 1) := by decide +kernel
theorem dX12_linksTypes_59 : decode cX12_linksTypes 59 = .ok (.ifCond .lt 10, 3) := by decide +kernel
theorem dX12_linksTypes_62 : decode cX12_linksTypes 62 = .ok (.iconst 1, 1) := by decide +kernel
theorem dX12_linksTypes_63 : decode cX12_linksTypes 63 = .ok (.iload 5, 2) := by decide +kernel
theorem dX12_linksTypes_65 : decode cX12_linksTypes 65 = .ok (.ishl, 1) := by decide +kernel
theorem dX12_linksTypes_66 : decode cX12_linksTypes 66 = .ok (.goto 4, 3) := by decide +kernel
theorem dX12_linksTypes_69 : decode cX12_linksTypes 69 = .ok (.iconst 0, 1) := by decide +kernel
theorem dX12_linksTypes_70 : decode cX12_linksTypes 70 = .ok (.ior, 1) := by decide +kernel
theorem dX12_linksTypes_71 : decode cX12_linksTypes 71 = .ok (.istore 4, 2) := by decide +kernel
theorem dX12_linksTypes_73 : decode cX12_linksTypes 73 = .ok (.iinc 5 1, 3) := by decide +kernel
theorem dX12_linksTypes_76 : decode cX12_linksTypes 76 = .ok (.goto (-70), 3) := by decide +kernel
theorem dX12_linksTypes_79 : decode cX12_linksTypes 79 = .ok (.aload_n 0, 1) := by decide +kernel
theorem dX12_linksTypes_80 : decode cX12_linksTypes 80 = .ok (.iload 4, 2) := by decide +kernel
theorem dX12_linksTypes_82 : decode cX12_linksTypes 82 = .ok (.invokevirtual 391, 3) := by decide +kernel
theorem dX12_linksTypes_85 : decode cX12_linksTypes 85 = .ok (.istore 5, 2) := by decide +kernel
theorem dX12_linksTypes_87 : decode cX12_linksTypes 87 = .ok (.iload 5, 2) := by decide +kernel
theorem dX12_linksTypes_89 : decode cX12_linksTypes 89 = .ok (.ifCond .eq 6, 3) := by decide +kernel
theorem dX12_linksTypes_92 : decode cX12_linksTypes 92 = .ok (.iload 5, 2) := by decide +kernel
theorem dX12_linksTypes_94 : decode cX12_linksTypes 94 = .ok (.ireturn, 1) := by decide +kernel
theorem dX12_linksTypes_95 : decode cX12_linksTypes 95 = .ok (.iconst 0, 1) := by decide +kernel
theorem dX12_linksTypes_96 : decode cX12_linksTypes 96 = .ok (.istore 6, 2) := by decide +kernel
theorem dX12_linksTypes_98 : decode cX12_linksTypes 98 = .ok (.iload 6, 2) := by decide +kernel
theorem dX12_linksTypes_100 : decode cX12_linksTypes 100 = .ok (.bipush 6, 2) := by decide +kernel
theorem dX12_linksTypes_102 : decode cX12_linksTypes 102 = .ok (.if_icmp .ge 83, 3) := by decide +kernel
theorem dX12_linksTypes_105 : decode cX12_linksTypes 105 = .ok (.aload_n 0, 1) := by decide +kernel
theorem dX12_linksTypes_106 : decode cX12_linksTypes 106 = .ok (.iload_n 1, 1) := by decide +kernel
theorem dX12_linksTypes_107 : decode cX12_linksTypes 107 = .ok (.iload 6, 2) := by decide +kernel
theorem dX12_linksTypes_109 : decode cX12_linksTypes 109 = .ok (.invokevirtual 413, 3) := by decide +kernel
theorem dX12_linksTypes_112 : decode cX12_linksTypes 112 = .ok (.bipush (-2), 2) := by decide +kernel
theorem dX12_linksTypes_114 : decode cX12_linksTypes 114 = .ok (.if_icmp .ne 19, 3) := by decide +kernel
theorem dX12_linksTypes_117 : decode cX12_linksTypes 117 = .ok (.aload_n 0, 1) := by decide +kernel
theorem dX12_linksTypes_118 : decode cX12_linksTypes 118 = .ok (.iload_n 2, 1) := by decide +kernel
theorem dX12_linksTypes_119 : decode cX12_linksTypes 119 = .ok (.iload 6, 2) := by decide +kernel
theorem dX12_linksTypes_121 : decode cX12_linksTypes 121 = .ok (.invokevirtual 413, 3) := by decide +kernel
theorem dX12_linksTypes_124 : decode cX12_linksTypes 124 = .ok (.bipush (-2), 2) := by decide +kernel
theorem dX12_linksTypes_126 : decode cX12_linksTypes 126 = .ok (.if_icmp .ne 7, 3) := by decide +kernel
theorem dX12_linksTypes_129 : decode cX12_linksTypes 129 = .ok (.iconst 1, 1) := by decide +kernel
theorem dX12_linksTypes_130 : decode cX12_linksTypes 130 = .ok (.goto 4, 3) := by decide +kernel
theorem dX12_linksTypes_133 : decode cX12_linksTypes 133 = .ok (.iconst 0, 1) := by decide +kernel
theorem dX12_linksTypes_134 : decode cX12_linksTypes 134 = .ok (.istore 7, 2) := by decide +kernel
theorem dX12_linksTypes_136 : decode cX12_linksTypes 136 = .ok (.aload_n 0, 1) := by decide +kernel
theorem dX12_linksTypes_137 : decode cX12_linksTypes 137 = .ok (.getfield 127, 3) := by decide +kernel
theorem dX12_linksTypes_140 : decode cX12_linksTypes 140 = .ok (.bipush 6, 2) := by decide +kernel
theorem dX12_linksTypes_142 : decode cX12_linksTypes 142 = .ok (.iload_n 3, 1) := by decide +kernel
theorem dX12_linksTypes_143 : decode cX12_linksTypes 143 = .ok (.imul, 1) := by decide +kernel
theorem dX12_linksTypes_144 : decode cX12_linksTypes 144 = .ok (.iload 6, 2) := by decide +kernel
theorem dX12_linksTypes_146 : decode cX12_linksTypes 146 = .ok (.iadd, 1) := by decide +kernel
theorem dX12_linksTypes_147 : decode cX12_linksTypes 147 = .ok (.iload 4, 2) := by decide +kernel
theorem dX12_linksTypes_149 : decode cX12_linksTypes 149 = .ok (.iload 6, 2) := by decide +kernel
theorem dX12_linksTypes_151 : decode cX12_linksTypes 151 = .ok (.invokestatic 367, 3) := by decide +kernel
theorem dX12_linksTypes_154 : decode cX12_linksTypes 154 = .ok (.ifCond .eq 13, 3) := by decide +kernel
theorem dX12_linksTypes_157 : decode cX12_linksTypes 157 = .ok (.aload_n 0, 1) := by decide +kernel
theorem dX12_linksTypes_158 : decode cX12_linksTypes 158 = .ok (.getfield 151, 3) := by decide +kernel
theorem dX12_linksTypes_161 : decode cX12_linksTypes 161 = .ok (.iload 6, 2) := by decide +kernel
theorem dX12_linksTypes_163 : decode cX12_linksTypes 163 = .ok (.iaload, 1) := by decide +kernel
theorem dX12_linksTypes_164 : decode cX12_linksTypes 164 = .ok (.goto 14, 3) := by decide +kernel
theorem dX12_linksTypes_167 : decode cX12_linksTypes 167 = .ok (.iload 7, 2) := by decide +kernel
theorem dX12_linksTypes_169 : decode cX12_linksTypes 169 = .ok (.ifCond .eq 8, 3) := by decide +kernel
theorem dX12_linksTypes_172 : decode cX12_linksTypes 172 = .ok (.bipush (-2), 2) := by decide +kernel
theorem dX12_linksTypes_174 : decode cX12_linksTypes 174 = .ok (.goto 4, 3) := by decide +kernel
theorem dX12_linksTypes_177 : decode cX12_linksTypes 177 = .ok (.iconst (-1), 1) := by decide +kernel
theorem dX12_linksTypes_178 : decode cX12_linksTypes 178 = .ok (.iastore, 1) := by decide +kernel
theorem dX12_linksTypes_179 : decode cX12_linksTypes 179 = .ok (.iinc 6 1, 3) := by decide +kernel
theorem dX12_linksTypes_182 : decode cX12_linksTypes 182 = .ok (.goto (-84), 3) := by decide +kernel
theorem dX12_linksTypes_185 : decode cX12_linksTypes 185 = .ok (.iconst 0, 1) := by decide +kernel
theorem dX12_linksTypes_186 : decode cX12_linksTypes 186 = .ok (.istore 6, 2) := by decide +kernel
theorem dX12_linksTypes_188 : decode cX12_linksTypes 188 = .ok (.iload 6, 2) := by decide +kernel
theorem dX12_linksTypes_190 : decode cX12_linksTypes 190 = .ok (.bipush 6, 2) := by decide +kernel
theorem dX12_linksTypes_192 : decode cX12_linksTypes 192 = .ok (.if_icmp .ge 58, 3) := by decide +kernel
theorem dX12_linksTypes_195 : decode cX12_linksTypes 195 = .ok (.aload_n 0, 1) := by decide +kernel
theorem dX12_linksTypes_196 : decode cX12_linksTypes 196 = .ok (.iload_n 1, 1) := by decide +kernel
theorem dX12_linksTypes_197 : decode cX12_linksTypes 197 = .ok (.iload 6, 2) := by decide +kernel
theorem dX12_linksTypes_199 : decode cX12_linksTypes 199 = .ok (.invokevirtual 413, 3) := by decide +kernel
theorem dX12_linksTypes_202 : decode cX12_linksTypes 202 = .ok (.ifCond .lt 42, 3) := by decide +kernel
theorem dX12_linksTypes_205 : decode cX12_linksTypes 205 = .ok (.aload_n 0, 1) := by decide +kernel
theorem dX12_linksTypes_206 : decode cX12_linksTypes 206 = .ok (.iload_n 2, 1) := by decide +kernel
theorem dX12_linksTypes_207 : decode cX12_linksTypes 207 = .ok (.iload 6, 2) := by decide +kernel
theorem dX12_linksTypes_209 : decode cX12_linksTypes 209 = .ok (.invokevirtual 413, 3) := by decide +kernel
theorem dX12_linksTypes_212 : decode cX12_linksTypes 212 = .ok (.ifCond .lt 32, 3) := by decide +kernel
theorem dX12_linksTypes_215 : decode cX12_linksTypes 215 = .ok (.aload_n 0, 1) := by decide +kernel
theorem dX12_linksTypes_216 : decode cX12_linksTypes 216 = .ok (.iconst 0, 1) := by decide +kernel
theorem dX12_linksTypes_217 : decode cX12_linksTypes 217 = .ok (.aload_n 0, 1) := by decide +kernel
theorem dX12_linksTypes_218 : decode cX12_linksTypes 218 = .ok (.iload_n 2, 1) := by decide +kernel
theorem dX12_linksTypes_219 : decode cX12_linksTypes 219 = .ok (.iload 6, 2) := by decide +kernel
theorem dX12_linksTypes_221 : decode cX12_linksTypes 221 = .ok (.invokevirtual 413, 3) := by decide +kernel
theorem dX12_linksTypes_224 : decode cX12_linksTypes 224 = .ok (.invokevirtual 378, 3) := by decide +kernel
theorem dX12_linksTypes_227 : decode cX12_linksTypes 227 = .ok (.aload_n 0, 1) := by decide +kernel
theorem dX12_linksTypes_228 : decode cX12_linksTypes 228 = .ok (.getfield 151, 3) := by decide +kernel
theorem dX12_linksTypes_231 : decode cX12_linksTypes 231 = .ok (.iload 6, 2) := by decide +kernel
theorem dX12_linksTypes_233 : decode cX12_linksTypes 233 = .ok (.iaload, 1) := by decide +kernel
theorem dX12_linksTypes_234 : decode cX12_linksTypes 234 = .ok (.if_icmp .eq 10, 3) := by decide +kernel
theorem dX12_linksTypes_237 : decode cX12_linksTypes 237 = .ok (.sipush 450, 3) := by decide +kernel
theorem dX12_linksTypes_240 : decode cX12_linksTypes 240 = .ok (.iload 6, 2) := by decide +kernel
theorem dX12_linksTypes_242 : decode cX12_linksTypes 242 = .ok (.iadd, 1) := by decide +kernel
theorem dX12_linksTypes_243 : decode cX12_linksTypes 243 = .ok (.ireturn, 1) := by decide +kernel
theorem dX12_linksTypes_244 : decode cX12_linksTypes 244 = .ok (.iinc 6 1, 3) := by decide +kernel
theorem dX12_linksTypes_247 : decode cX12_linksTypes 247 = .ok (.goto (-59), 3) := by decide +kernel
