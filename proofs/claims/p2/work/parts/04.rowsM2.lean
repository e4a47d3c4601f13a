theorem dX12_faceOf_10 : decode cX12_faceOf 10 = .ok (.aload_n 0, 1) := by decide +kernel
theorem dX12_faceOf_11 : decode cX12_faceOf 11 = .ok (.iload_n 1, 1) := by decide +kernel
theorem dX12_faceOf_12 : decode cX12_faceOf 12 = .ok (.invokevirtual 443, 3) := by decide +kernel
theorem dX12_faceOf_15 : decode cX12_faceOf 15 = .ok (.iastore, 1) := by decide +kernel
theorem dX12_faceOf_16 : decode cX12_faceOf 16 = .ok (.iconst 0, 1) := by decide +kernel
theorem dX12_faceOf_17 : decode cX12_faceOf 17 = .ok (.istore_n 2, 1) := by decide +kernel
theorem dX12_faceOf_18 : decode cX12_faceOf 18 = .ok (.iload_n 2, 1) := by decide +kernel
theorem dX12_faceOf_19 : decode cX12_faceOf 19 = .ok (.aload_n 0, 1) := by decide +kernel
theorem dX12_faceOf_20 : decode cX12_faceOf 20 = .ok (.iload_n 1, 1) := by decide +kernel
theorem dX12_faceOf_21 : decode cX12_faceOf 21 = .ok (.invokevirtual 446, 3) := by decide +kernel
theorem dX12_faceOf_24 : decode cX12_faceOf 24 = .ok (.if_icmp .ge 29, 3) := by decide +kernel
theorem dX12_faceOf_27 : decode cX12_faceOf 27 = .ok (.aload_n 0, 1) := by decide +kernel
theorem dX12_faceOf_28 : decode cX12_faceOf 28 = .ok (.getfield 139, 3) := by decide +kernel
theorem dX12_faceOf_31 : decode cX12_faceOf 31 = .ok (.aload_n 0, 1) := by decide +kernel
theorem dX12_faceOf_32 : decode cX12_faceOf 32 = .ok (.iload_n 1, 1) := by decide +kernel
theorem dX12_faceOf_33 : decode cX12_faceOf 33 = .ok (.iload_n 2, 1) := by decide +kernel
theorem dX12_faceOf_34 : decode cX12_faceOf 34 = .ok (.invokevirtual 449, 3) := by decide +kernel
theorem dX12_faceOf_37 : decode cX12_faceOf 37 = .ok (.iaload, 1) := by decide +kernel
theorem dX12_faceOf_38 : decode cX12_faceOf 38 = .ok (.ifCond .eq 9, 3) := by decide +kernel
theorem dX12_faceOf_41 : decode cX12_faceOf 41 = .ok (.sipush 1000, 3) := by decide +kernel
theorem dX12_faceOf_44 : decode cX12_faceOf 44 = .ok (.iload_n 2, 1) := by decide +kernel
theorem dX12_faceOf_45 : decode cX12_faceOf 45 = .ok (.iadd, 1) := by decide +kernel
theorem dX12_faceOf_46 : decode cX12_faceOf 46 = .ok (.ireturn, 1) := by decide +kernel
theorem dX12_faceOf_47 : decode cX12_faceOf 47 = .ok (.iinc 2 1, 3) := by decide +kernel
theorem dX12_faceOf_50 : decode cX12_faceOf 50 = .ok (.goto (-32), 3) := by decide +kernel
theorem dX12_faceOf_53 : decode cX12_faceOf 53 = .ok (.aload_n 0, 1) := by decide +kernel
theorem dX12_faceOf_54 : decode cX12_faceOf 54 = .ok (.getfield 55, 3) := by decide +kernel
theorem dX12_faceOf_57 : decode cX12_faceOf 57 = .ok (.iload_n 1, 1) := by decide +kernel
theorem dX12_faceOf_58 : decode cX12_faceOf 58 = .ok (.iaload, 1) := by decide +kernel
theorem dX12_faceOf_59 : decode cX12_faceOf 59 = .ok (.tableswitch 125 0 4 #[33, 44, 62, 81, 100], 33) := by decide +kernel
theorem dX12_faceOf_92 : decode cX12_faceOf 92 = .ok (.aload_n 0, 1) := by decide +kernel
theorem dX12_faceOf_93 : decode cX12_faceOf 93 = .ok (.iload_n 1, 1) := by decide +kernel
theorem dX12_faceOf_94 : decode cX12_faceOf 94 = .ok (.aload_n 0, 1) := by decide +kernel
theorem dX12_faceOf_95 : decode cX12_faceOf 95 = .ok (.iload_n 1, 1) := by decide +kernel
theorem dX12_faceOf_96 : decode cX12_faceOf 96 = .ok (.invokevirtual 440, 3) := by decide +kernel
theorem dX12_faceOf_99 : decode cX12_faceOf 99 = .ok (.invokevirtual 452, 3) := by decide +kernel
theorem dX12_faceOf_102 : decode cX12_faceOf 102 = .ok (.ireturn, 1) := by decide +kernel
theorem dX12_faceOf_103 : decode cX12_faceOf 103 = .ok (.aload_n 0, 1) := by decide +kernel
theorem dX12_faceOf_104 : decode cX12_faceOf 104 = .ok (.aload_n 0, 1) := by decide +kernel
theorem dX12_faceOf_105 : decode cX12_faceOf 105 = .ok (.getfield 58, 3) := by decide +kernel
theorem dX12_faceOf_108 : decode cX12_faceOf 108 = .ok (.iload_n 1, 1) := by decide +kernel
theorem dX12_faceOf_109 : decode cX12_faceOf 109 = .ok (.iaload, 1) := by decide +kernel
theorem dX12_faceOf_110 : decode cX12_faceOf 110 = .ok (.aload_n 0, 1) := by decide +kernel
theorem dX12_faceOf_111 : decode cX12_faceOf 111 = .ok (.getfield 61, 3) := by decide +kernel
theorem dX12_faceOf_114 : decode cX12_faceOf 114 = .ok (.iload_n 1, 1) := by decide +kernel
theorem dX12_faceOf_115 : decode cX12_faceOf 115 = .ok (.iaload, 1) := by decide +kernel
theorem dX12_faceOf_116 : decode cX12_faceOf 116 = .ok (.iload_n 1, 1) := by decide +kernel
theorem dX12_faceOf_117 : decode cX12_faceOf 117 = .ok (.invokevirtual 431, 3) := by decide +kernel
theorem dX12_faceOf_120 : decode cX12_faceOf 120 = .ok (.ireturn, 1) := by decide +kernel
theorem dX12_faceOf_121 : decode cX12_faceOf 121 = .ok (.aload_n 0, 1) := by decide +kernel
theorem dX12_faceOf_122 : decode cX12_faceOf 122 = .ok (.iload_n 1, 1) := by decide +kernel
theorem dX12_faceOf_123 : decode cX12_faceOf 123 = .ok (.aload_n 0, 1) := by decide +kernel
theorem dX12_faceOf_124 : decode cX12_faceOf 124 = .ok (.getfield 58, 3) := by decide +kernel
theorem dX12_faceOf_127 : decode cX12_faceOf 127 = .ok (.iload_n 1, 1) := by decide +kernel
theorem dX12_faceOf_128 : decode cX12_faceOf 128 = .ok (.iaload, 1) := by decide +kernel
theorem dX12_faceOf_129 : decode cX12_faceOf 129 = .ok (.aload_n 0, 1) := by decide +kernel
theorem dX12_faceOf_130 : decode cX12_faceOf 130 = .ok (.getfield 61, 3) := by decide +kernel
theorem dX12_faceOf_133 : decode cX12_faceOf 133 = .ok (.iload_n 1, 1) := by decide +kernel
theorem dX12_faceOf_134 : decode cX12_faceOf 134 = .ok (.iaload, 1) := by decide +kernel
theorem dX12_faceOf_135 : decode cX12_faceOf 135 = .ok (.iload_n 1, 1) := by decide +kernel
theorem dX12_faceOf_136 : decode cX12_faceOf 136 = .ok (.invokevirtual 455, 3) := by decide +kernel
theorem dX12_faceOf_139 : decode cX12_faceOf 139 = .ok (.ireturn, 1) := by decide +kernel
theorem dX12_faceOf_140 : decode cX12_faceOf 140 = .ok (.aload_n 0, 1) := by decide +kernel
theorem dX12_faceOf_141 : decode cX12_faceOf 141 = .ok (.iload_n 1, 1) := by decide +kernel
theorem dX12_faceOf_142 : decode cX12_faceOf 142 = .ok (.aload_n 0, 1) := by decide +kernel
theorem dX12_faceOf_143 : decode cX12_faceOf 143 = .ok (.getfield 58, 3) := by decide +kernel
theorem dX12_faceOf_146 : decode cX12_faceOf 146 = .ok (.iload_n 1, 1) := by decide +kernel
theorem dX12_faceOf_147 : decode cX12_faceOf 147 = .ok (.iaload, 1) := by decide +kernel
theorem dX12_faceOf_148 : decode cX12_faceOf 148 = .ok (.aload_n 0, 1) := by decide +kernel
theorem dX12_faceOf_149 : decode cX12_faceOf 149 = .ok (.getfield 61, 3) := by decide +kernel
theorem dX12_faceOf_152 : decode cX12_faceOf 152 = .ok (.iload_n 1, 1) := by decide +kernel
theorem dX12_faceOf_153 : decode cX12_faceOf 153 = .ok (.iaload, 1) := by decide +kernel
theorem dX12_faceOf_154 : decode cX12_faceOf 154 = .ok (.iload_n 1, 1) := by decide +kernel
theorem dX12_faceOf_155 : decode cX12_faceOf 155 = .ok (.invokevirtual 458, 3) := by decide +kernel
theorem dX12_faceOf_158 : decode cX12_faceOf 158 = .ok (.ireturn, 1) := by decide +kernel
theorem dX12_faceOf_159 : decode cX12_faceOf 159 = .ok (.aload_n 0, 1) := by decide +kernel
theorem dX12_faceOf_160 : decode cX12_faceOf 160 = .ok (.iload_n 1, 1) := by decide +kernel
theorem dX12_faceOf_161 : decode cX12_faceOf 161 = .ok (.aload_n 0, 1) := by decide +kernel
theorem dX12_faceOf_162 : decode cX12_faceOf 162 = .ok (.getfield 58, 3) := by decide +kernel
theorem dX12_faceOf_165 : decode cX12_faceOf 165 = .ok (.iload_n 1, 1) := by decide +kernel
theorem dX12_faceOf_166 : decode cX12_faceOf 166 = .ok (.iaload, 1) := by decide +kernel
theorem dX12_faceOf_167 : decode cX12_faceOf 167 = .ok (.aload_n 0, 1) := by decide +kernel
theorem dX12_faceOf_168 : decode cX12_faceOf 168 = .ok (.getfield 61, 3) := by decide +kernel
theorem dX12_faceOf_171 : decode cX12_faceOf 171 = .ok (.iload_n 1, 1) := by decide +kernel
theorem dX12_faceOf_172 : decode cX12_faceOf 172 = .ok (.iaload, 1) := by decide +kernel
theorem dX12_faceOf_173 : decode cX12_faceOf 173 = .ok (.aload_n 0, 1) := by decide +kernel
theorem dX12_faceOf_174 : decode cX12_faceOf 174 = .ok (.getfield 64, 3) := by decide +kernel
theorem dX12_faceOf_177 : decode cX12_faceOf 177 = .ok (.iload_n 1, 1) := by decide +kernel
theorem dX12_faceOf_178 : decode cX12_faceOf 178 = .ok (.iaload, 1) := by decide +kernel
theorem dX12_faceOf_179 : decode cX12_faceOf 179 = .ok (.iload_n 1, 1) := by decide +kernel
theorem dX12_faceOf_180 : decode cX12_faceOf 180 = .ok (.invokevirtual 461, 3) := by decide +kernel
theorem dX12_faceOf_183 : decode cX12_faceOf 183 = .ok (.ireturn, 1) := by decide +kernel
theorem dX12_faceOf_184 : decode cX12_faceOf 184 = .ok (.aload_n 0, 1) := by decide +kernel
theorem dX12_faceOf_185 : decode cX12_faceOf 185 = .ok (.iload_n 1, 1) := by decide +kernel
theorem dX12_faceOf_186 : decode cX12_faceOf 186 = .ok (.aload_n 0, 1) := by decide +kernel
theorem dX12_faceOf_187 : decode cX12_faceOf 187 = .ok (.getfield 58, 3) := by decide +kernel
theorem dX12_faceOf_190 : decode cX12_faceOf 190 = .ok (.iload_n 1, 1) := by decide +kernel
theorem dX12_faceOf_191 : decode cX12_faceOf 191 = .ok (.iaload, 1) := by decide +kernel
theorem dX12_faceOf_192 : decode cX12_faceOf 192 = .ok (.invokevirtual 464, 3) := by decide +kernel
theorem dX12_faceOf_195 : decode cX12_faceOf 195 = .ok (.ireturn, 1) := by decide +kernel
theorem dX12_reachOf_0 : decode cX12_reachOf 0 = .ok (.lload_n 1, 1) := by decide +kernel
theorem dX12_reachOf_1 : decode cX12_reachOf 1 = .ok (.lstore_n 3, 1) := by decide +kernel
theorem dX12_reachOf_2 : decode cX12_reachOf 2 = .ok (.aload_n 0, 1) := by decide +kernel
theorem dX12_reachOf_3 : decode cX12_reachOf 3 = .ok (.getfield 288, 3) := by decide +kernel
theorem dX12_reachOf_6 : decode cX12_reachOf 6 = .ok (.iconst 1, 1) := by decide +kernel
theorem dX12_reachOf_7 : decode cX12_reachOf 7 = .ok (.isub, 1) := by decide +kernel
theorem dX12_reachOf_8 : decode cX12_reachOf 8 = .ok (.istore 5, 2) := by decide +kernel
theorem dX12_reachOf_10 : decode cX12_reachOf 10 = .ok (.iload 5, 2) := by decide +kernel
theorem dX12_reachOf_12 : decode cX12_reachOf 12 = .ok (.ifCond .lt 53, 3) := by decide +kernel
theorem dX12_reachOf_15 : decode cX12_reachOf 15 = .ok (.iconst 0, 1) := by decide +kernel
theorem dX12_reachOf_16 : decode cX12_reachOf 16 = .ok (.istore 6, 2) := by decide +kernel
theorem dX12_reachOf_18 : decode cX12_reachOf 18 = .ok (.lload_n 3, 1) := by decide +kernel
theorem dX12_reachOf_19 : decode cX12_reachOf 19 = .ok (.iload 5, 2) := by decide +kernel
theorem dX12_reachOf_21 : decode cX12_reachOf 21 = .ok (.lshr, 1) := by decide +kernel
theorem dX12_reachOf_22 : decode cX12_reachOf 22 = .ok (.lconst 1, 1) := by decide +kernel
theorem dX12_reachOf_23 : decode cX12_reachOf 23 = .ok (.land, 1) := by decide +kernel
theorem dX12_reachOf_24 : decode cX12_reachOf 24 = .ok (.lconst 1, 1) := by decide +kernel
theorem dX12_reachOf_25 : decode cX12_reachOf 25 = .ok (.lcmp, 1) := by decide +kernel
theorem dX12_reachOf_26 : decode cX12_reachOf 26 = .ok (.ifCond .ne 33, 3) := by decide +kernel
theorem dX12_reachOf_29 : decode cX12_reachOf 29 = .ok (.iload 6, 2) := by decide +kernel
theorem dX12_reachOf_31 : decode cX12_reachOf 31 = .ok (.aload_n 0, 1) := by decide +kernel
theorem dX12_reachOf_32 : decode cX12_reachOf 32 = .ok (.iload 5, 2) := by decide +kernel
theorem dX12_reachOf_34 : decode cX12_reachOf 34 = .ok (.invokevirtual 446, 3) := by decide +kernel
theorem dX12_reachOf_37 : decode cX12_reachOf 37 = .ok (.if_icmp .ge 22, 3) := by decide +kernel
theorem dX12_reachOf_40 : decode cX12_reachOf 40 = .ok (.lload_n 3, 1) := by decide +kernel
theorem dX12_reachOf_41 : decode cX12_reachOf 41 = .ok (.lconst 1, 1) := by decide +kernel
theorem dX12_reachOf_42 : decode cX12_reachOf 42 = .ok (.aload_n 0, 1) := by decide +kernel
theorem dX12_reachOf_43 : decode cX12_reachOf 43 = .ok (.iload 5, 2) := by decide +kernel
theorem dX12_reachOf_45 : decode cX12_reachOf 45 = .ok (.iload 6, 2) := by decide +kernel
theorem dX12_reachOf_47 : decode cX12_reachOf 47 = .ok (.invokevirtual 449, 3) := by decide +kernel
theorem dX12_reachOf_50 : decode cX12_reachOf 50 = .ok (.lshl, 1) := by decide +kernel
theorem dX12_reachOf_51 : decode cX12_reachOf 51 = .ok (.lor, 1) := by decide +kernel
theorem dX12_reachOf_52 : decode cX12_reachOf 52 = .ok (.lstore_n 3, 1) := by decide +kernel
theorem dX12_reachOf_53 : decode cX12_reachOf 53 = .ok (.iinc 6 1, 3) := by decide +kernel
theorem dX12_reachOf_56 : decode cX12_reachOf 56 = .ok (.goto (-38), 3) := by decide +kernel
theorem dX12_reachOf_59 : decode cX12_reachOf 59 = .ok (.iinc 5 (-1), 3) := by decide +kernel
theorem dX12_reachOf_62 : decode cX12_reachOf 62 = .ok (.goto (-52), 3) := by decide +kernel
theorem dX12_reachOf_65 : decode cX12_reachOf 65 = .ok (.lload_n 3, 1) := by decide +kernel
theorem dX12_reachOf_66 : decode cX12_reachOf 66 = .ok (.lreturn, 1) := by decide +kernel
theorem dX12_faces_0 : decode cX12_faces 0 = .ok (.aload_n 0, 1) := by decide +kernel
theorem dX12_faces_1 : decode cX12_faces 1 = .ok (.invokevirtual 467, 3) := by decide +kernel
theorem dX12_faces_4 : decode cX12_faces 4 = .ok (.iconst 0, 1) := by decide +kernel
theorem dX12_faces_5 : decode cX12_faces 5 = .ok (.istore_n 3, 1) := by decide +kernel
theorem dX12_faces_6 : decode cX12_faces 6 = .ok (.iload_n 3, 1) := by decide +kernel
theorem dX12_faces_7 : decode cX12_faces 7 = .ok (.aload_n 0, 1) := by decide +kernel
theorem dX12_faces_8 : decode cX12_faces 8 = .ok (.getfield 275, 3) := by decide +kernel
theorem dX12_faces_11 : decode cX12_faces 11 = .ok (.if_icmp .ge 86, 3) := by decide +kernel
theorem dX12_faces_14 : decode cX12_faces 14 = .ok (.aload_n 0, 1) := by decide +kernel
theorem dX12_faces_15 : decode cX12_faces 15 = .ok (.getfield 145, 3) := by decide +kernel
theorem dX12_faces_18 : decode cX12_faces 18 = .ok (.iload_n 3, 1) := by decide +kernel
theorem dX12_faces_19 : decode cX12_faces 19 = .ok (.aload_n 0, 1) := by decide +kernel
theorem dX12_faces_20 : decode cX12_faces 20 = .ok (.getfield 7, 3) := by decide +kernel
theorem dX12_faces_23 : decode cX12_faces 23 = .ok (.iload_n 3, 1) := by decide +kernel
theorem dX12_faces_24 : decode cX12_faces 24 = .ok (.iaload, 1) := by decide +kernel
theorem dX12_faces_25 : decode cX12_faces 25 = .ok (.ifCond .ne 13, 3) := by decide +kernel
theorem dX12_faces_28 : decode cX12_faces 28 = .ok (.aload_n 0, 1) := by decide +kernel
theorem dX12_faces_29 : decode cX12_faces 29 = .ok (.iconst 0, 1) := by decide +kernel
theorem dX12_faces_30 : decode cX12_faces 30 = .ok (.iconst 0, 1) := by decide +kernel
theorem dX12_faces_31 : decode cX12_faces 31 = .ok (.iconst 0, 1) := by decide +kernel
theorem dX12_faces_32 : decode cX12_faces 32 = .ok (.invokevirtual 338, 3) := by decide +kernel
theorem dX12_faces_35 : decode cX12_faces 35 = .ok (.goto 55, 3) := by decide +kernel
theorem dX12_faces_38 : decode cX12_faces 38 = .ok (.aload_n 0, 1) := by decide +kernel
theorem dX12_faces_39 : decode cX12_faces 39 = .ok (.getfield 7, 3) := by decide +kernel
theorem dX12_faces_42 : decode cX12_faces 42 = .ok (.iload_n 3, 1) := by decide +kernel
theorem dX12_faces_43 : decode cX12_faces 43 = .ok (.iaload, 1) := by decide +kernel
theorem dX12_faces_44 : decode cX12_faces 44 = .ok (.iconst 2, 1) := by decide +kernel
theorem dX12_faces_45 : decode cX12_faces 45 = .ok (.if_icmp .ne 18, 3) := by decide +kernel
theorem dX12_faces_48 : decode cX12_faces 48 = .ok (.aload_n 0, 1) := by decide +kernel
theorem dX12_faces_49 : decode cX12_faces 49 = .ok (.iconst 1, 1) := by decide +kernel
theorem dX12_faces_50 : decode cX12_faces 50 = .ok (.aload_n 0, 1) := by decide +kernel
theorem dX12_faces_51 : decode cX12_faces 51 = .ok (.getfield 13, 3) := by decide +kernel
theorem dX12_faces_54 : decode cX12_faces 54 = .ok (.iload_n 3, 1) := by decide +kernel
theorem dX12_faces_55 : decode cX12_faces 55 = .ok (.iaload, 1) := by decide +kernel
theorem dX12_faces_56 : decode cX12_faces 56 = .ok (.iconst 0, 1) := by decide +kernel
theorem dX12_faces_57 : decode cX12_faces 57 = .ok (.invokevirtual 338, 3) := by decide +kernel
theorem dX12_faces_60 : decode cX12_faces 60 = .ok (.goto 30, 3) := by decide +kernel
theorem dX12_faces_63 : decode cX12_faces 63 = .ok (.aload_n 0, 1) := by decide +kernel
theorem dX12_faces_64 : decode cX12_faces 64 = .ok (.iconst 3, 1) := by decide +kernel
theorem dX12_faces_65 : decode cX12_faces 65 = .ok (.aload_n 0, 1) := by decide +kernel
theorem dX12_faces_66 : decode cX12_faces 66 = .ok (.getfield 145, 3) := by decide +kernel
theorem dX12_faces_69 : decode cX12_faces 69 = .ok (.aload_n 0, 1) := by decide +kernel
theorem dX12_faces_70 : decode cX12_faces 70 = .ok (.getfield 13, 3) := by decide +kernel
theorem dX12_faces_73 : decode cX12_faces 73 = .ok (.iload_n 3, 1) := by decide +kernel
theorem dX12_faces_74 : decode cX12_faces 74 = .ok (.iaload, 1) := by decide +kernel
theorem dX12_faces_75 : decode cX12_faces 75 = .ok (.iaload, 1) := by decide +kernel
theorem dX12_faces_76 : decode cX12_faces 76 = .ok (.aload_n 0, 1) := by decide +kernel
theorem dX12_faces_77 : decode cX12_faces 77 = .ok (.getfield 145, 3) := by decide +kernel
theorem dX12_faces_80 : decode cX12_faces 80 = .ok (.aload_n 0, 1) := by decide +kernel
theorem dX12_faces_81 : decode cX12_faces 81 = .ok (.getfield 16, 3) := by decide +kernel
theorem dX12_faces_84 : decode cX12_faces 84 = .ok (.iload_n 3, 1) := by decide +kernel
theorem dX12_faces_85 : decode cX12_faces 85 = .ok (.iaload, 1) := by decide +kernel
theorem dX12_faces_86 : decode cX12_faces 86 = .ok (.iaload, 1) := by decide +kernel
theorem dX12_faces_87 : decode cX12_faces 87 = .ok (.invokevirtual 338, 3) := by decide +kernel
theorem dX12_faces_90 : decode cX12_faces 90 = .ok (.iastore, 1) := by decide +kernel
theorem dX12_faces_91 : decode cX12_faces 91 = .ok (.iinc 3 1, 3) := by decide +kernel
theorem dX12_faces_94 : decode cX12_faces 94 = .ok (.goto (-88), 3) := by decide +kernel
theorem dX12_faces_97 : decode cX12_faces 97 = .ok (.aload_n 0, 1) := by decide +kernel
theorem dX12_faces_98 : decode cX12_faces 98 = .ok (.lload_n 1, 1) := by decide +kernel
theorem dX12_faces_99 : decode cX12_faces 99 = .ok (.invokevirtual 470, 3) := by decide +kernel
theorem dX12_faces_102 : decode cX12_faces 102 = .ok (.lstore_n 3, 1) := by decide +kernel
theorem dX12_faces_103 : decode cX12_faces 103 = .ok (.iconst 0, 1) := by decide +kernel
theorem dX12_faces_104 : decode cX12_faces 104 = .ok (.istore 5, 2) := by decide +kernel
theorem dX12_faces_106 : decode cX12_faces 106 = .ok (.iload 5, 2) := by decide +kernel
theorem dX12_faces_108 : decode cX12_faces 108 = .ok (.aload_n 0, 1) := by decide +kernel
theorem dX12_faces_109 : decode cX12_faces 109 = .ok (.getfield 288, 3) := by decide +kernel
theorem dX12_faces_112 : decode cX12_faces 112 = .ok (.if_icmp .ge 33, 3) := by decide +kernel
theorem dX12_faces_115 : decode cX12_faces 115 = .ok (.lload_n 3, 1) := by decide +kernel
theorem dX12_faces_116 : decode cX12_faces 116 = .ok (.iload 5, 2) := by decide +kernel
theorem dX12_faces_118 : decode cX12_faces 118 = .ok (.lshr, 1) := by decide +kernel
theorem dX12_faces_119 : decode cX12_faces 119 = .ok (.lconst 1, 1) := by decide +kernel
theorem dX12_faces_120 : decode cX12_faces 120 = .ok (.land, 1) := by decide +kernel
theorem dX12_faces_121 : decode cX12_faces 121 = .ok (.lconst 1, 1) := by decide +kernel
theorem dX12_faces_122 : decode cX12_faces 122 = .ok (.lcmp, 1) := by decide +kernel
theorem dX12_faces_123 : decode cX12_faces 123 = .ok (.ifCond .ne 16, 3) := by decide +kernel
theorem dX12_faces_126 : decode cX12_faces 126 = .ok (.aload_n 0, 1) := by decide +kernel
theorem dX12_faces_127 : decode cX12_faces 127 = .ok (.getfield 139, 3) := by decide +kernel
theorem dX12_faces_130 : decode cX12_faces 130 = .ok (.iload 5, 2) := by decide +kernel
theorem dX12_faces_132 : decode cX12_faces 132 = .ok (.aload_n 0, 1) := by decide +kernel
theorem dX12_faces_133 : decode cX12_faces 133 = .ok (.iload 5, 2) := by decide +kernel
theorem dX12_faces_135 : decode cX12_faces 135 = .ok (.invokevirtual 474, 3) := by decide +kernel
theorem dX12_faces_138 : decode cX12_faces 138 = .ok (.iastore, 1) := by decide +kernel
theorem dX12_faces_139 : decode cX12_faces 139 = .ok (.iinc 5 1, 3) := by decide +kernel
theorem dX12_faces_142 : decode cX12_faces 142 = .ok (.goto (-36), 3) := by decide +kernel
theorem dX12_faces_145 : decode cX12_faces 145 = .ok (.return_, 1) := by decide +kernel
theorem dX12_isRight_0 : decode cX12_isRight 0 = .ok (.aload_n 0, 1) := by decide +kernel
theorem dX12_isRight_1 : decode cX12_isRight 1 = .ok (.lconst 1, 1) := by decide +kernel
theorem dX12_isRight_2 : decode cX12_isRight 2 = .ok (.iload_n 1, 1) := by decide +kernel
theorem dX12_isRight_3 : decode cX12_isRight 3 = .ok (.lshl, 1) := by decide +kernel
theorem dX12_isRight_4 : decode cX12_isRight 4 = .ok (.invokevirtual 477, 3) := by decide +kernel
theorem dX12_isRight_7 : decode cX12_isRight 7 = .ok (.aload_n 0, 1) := by decide +kernel
theorem dX12_isRight_8 : decode cX12_isRight 8 = .ok (.getfield 139, 3) := by decide +kernel
theorem dX12_isRight_11 : decode cX12_isRight 11 = .ok (.iload_n 1, 1) := by decide +kernel
theorem dX12_isRight_12 : decode cX12_isRight 12 = .ok (.iaload, 1) := by decide +kernel
theorem dX12_isRight_13 : decode cX12_isRight 13 = .ok (.ifCond .ne 7, 3) := by decide +kernel
theorem dX12_isRight_16 : decode cX12_isRight 16 = .ok (.iconst 1, 1) := by decide +kernel
theorem dX12_isRight_17 : decode cX12_isRight 17 = .ok (.goto 4, 3) := by decide +kernel
theorem dX12_isRight_20 : decode cX12_isRight 20 = .ok (.iconst 0, 1) := by decide +kernel
theorem dX12_isRight_21 : decode cX12_isRight 21 = .ok (.ireturn, 1) := by decide +kernel
theorem dX12_error_0 : decode cX12_error 0 = .ok (.aload_n 0, 1) := by decide +kernel
theorem dX12_error_1 : decode cX12_error 1 = .ok (.aload_n 0, 1) := by decide +kernel
theorem dX12_error_2 : decode cX12_error 2 = .ok (.iload_n 1, 1) := by decide +kernel
theorem dX12_error_3 : decode cX12_error 3 = .ok (.invokevirtual 330, 3) := by decide +kernel
theorem dX12_error_6 : decode cX12_error 6 = .ok (.iconst 1, 1) := by decide +kernel
theorem dX12_error_7 : decode cX12_error 7 = .ok (.iconst 1, 1) := by decide +kernel
theorem dX12_error_8 : decode cX12_error 8 = .ok (.invokevirtual 298, 3) := by decide +kernel
theorem dX12_error_11 : decode cX12_error 11 = .ok (.ifCond .ne 5, 3) := by decide +kernel
theorem dX12_error_14 : decode cX12_error 14 = .ok (.iconst 0, 1) := by decide +kernel
theorem dX12_error_15 : decode cX12_error 15 = .ok (.ireturn, 1) := by decide +kernel
theorem dX12_error_16 : decode cX12_error 16 = .ok (.aload_n 0, 1) := by decide +kernel
theorem dX12_error_17 : decode cX12_error 17 = .ok (.lconst 1, 1) := by decide +kernel
theorem dX12_error_18 : decode cX12_error 18 = .ok (.iload_n 1, 1) := by decide +kernel
theorem dX12_error_19 : decode cX12_error 19 = .ok (.lshl, 1) := by decide +kernel
theorem dX12_error_20 : decode cX12_error 20 = .ok (.invokevirtual 477, 3) := by decide +kernel
theorem dX12_error_23 : decode cX12_error 23 = .ok (.aload_n 0, 1) := by decide +kernel
theorem dX12_error_24 : decode cX12_error 24 = .ok (.getfield 139, 3) := by decide +kernel
theorem dX12_error_27 : decode cX12_error 27 = .ok (.iload_n 1, 1) := by decide +kernel
theorem dX12_error_28 : decode cX12_error 28 = .ok (.iaload, 1) := by decide +kernel
theorem dX12_error_29 : decode cX12_error 29 = .ok (.ireturn, 1) := by decide +kernel
theorem dX12_asks_0 : decode cX12_asks 0 = .ok (.aload_n 0, 1) := by decide +kernel
theorem dX12_asks_1 : decode cX12_asks 1 = .ok (.iload_n 1, 1) := by decide +kernel
theorem dX12_asks_2 : decode cX12_asks 2 = .ok (.invokevirtual 330, 3) := by decide +kernel
theorem dX12_asks_5 : decode cX12_asks 5 = .ok (.istore_n 3, 1) := by decide +kernel
theorem dX12_asks_6 : decode cX12_asks 6 = .ok (.aload_n 0, 1) := by decide +kernel
theorem dX12_asks_7 : decode cX12_asks 7 = .ok (.iload_n 3, 1) := by decide +kernel
theorem dX12_asks_8 : decode cX12_asks 8 = .ok (.iload_n 2, 1) := by decide +kernel
theorem dX12_asks_9 : decode cX12_asks 9 = .ok (.iload_n 3, 1) := by decide +kernel
theorem dX12_asks_10 : decode cX12_asks 10 = .ok (.ifCond .eq 15, 3) := by decide +kernel
theorem dX12_asks_13 : decode cX12_asks 13 = .ok (.aload_n 0, 1) := by decide +kernel
theorem dX12_asks_14 : decode cX12_asks 14 = .ok (.iload_n 1, 1) := by decide +kernel
theorem dX12_asks_15 : decode cX12_asks 15 = .ok (.invokevirtual 481, 3) := by decide +kernel
theorem dX12_asks_18 : decode cX12_asks 18 = .ok (.ifCond .eq 7, 3) := by decide +kernel
theorem dX12_asks_21 : decode cX12_asks 21 = .ok (.iconst 1, 1) := by decide +kernel
theorem dX12_asks_22 : decode cX12_asks 22 = .ok (.goto 4, 3) := by decide +kernel
theorem dX12_asks_25 : decode cX12_asks 25 = .ok (.iconst 0, 1) := by decide +kernel
theorem dX12_asks_26 : decode cX12_asks 26 = .ok (.invokevirtual 298, 3) := by decide +kernel
theorem dX12_asks_29 : decode cX12_asks 29 = .ok (.ireturn, 1) := by decide +kernel
theorem dX12_typeOf_0 : decode cX12_typeOf 0 = .ok (.aload_n 0, 1) := by decide +kernel
theorem dX12_typeOf_1 : decode cX12_typeOf 1 = .ok (.iload_n 1, 1) := by decide +kernel
theorem dX12_typeOf_2 : decode cX12_typeOf 2 = .ok (.iload_n 2, 1) := by decide +kernel
theorem dX12_typeOf_3 : decode cX12_typeOf 3 = .ok (.invokestatic 291, 3) := by decide +kernel
theorem dX12_typeOf_6 : decode cX12_typeOf 6 = .ok (.invokevirtual 484, 3) := by decide +kernel
theorem dX12_typeOf_9 : decode cX12_typeOf 9 = .ok (.ifCond .ne 5, 3) := by decide +kernel
theorem dX12_typeOf_12 : decode cX12_typeOf 12 = .ok (.iconst 0, 1) := by decide +kernel
theorem dX12_typeOf_13 : decode cX12_typeOf 13 = .ok (.ireturn, 1) := by decide +kernel
theorem dX12_typeOf_14 : decode cX12_typeOf 14 = .ok (.aload_n 0, 1) := by decide +kernel
theorem dX12_typeOf_15 : decode cX12_typeOf 15 = .ok (.iload_n 1, 1) := by decide +kernel
theorem dX12_typeOf_16 : decode cX12_typeOf 16 = .ok (.iload_n 2, 1) := by decide +kernel
theorem dX12_typeOf_17 : decode cX12_typeOf 17 = .ok (.invokevirtual 413, 3) := by decide +kernel
theorem dX12_typeOf_20 : decode cX12_typeOf 20 = .ok (.istore_n 3, 1) := by decide +kernel
theorem dX12_typeOf_21 : decode cX12_typeOf 21 = .ok (.iload_n 3, 1) := by decide +kernel
theorem dX12_typeOf_22 : decode cX12_typeOf 22 = .ok (.bipush (-2), 2) := by decide +kernel
theorem dX12_typeOf_24 : decode cX12_typeOf 24 = .ok (.if_icmp .ne 7, 3) := by decide +kernel
theorem dX12_typeOf_27 : decode cX12_typeOf 27 = .ok (.iconst 0, 1) := by decide +kernel
theorem dX12_typeOf_28 : decode cX12_typeOf 28 = .ok (.goto 27, 3) := by decide +kernel
theorem dX12_typeOf_31 : decode cX12_typeOf 31 = .ok (.iload_n 3, 1) := by decide +kernel
theorem dX12_typeOf_32 : decode cX12_typeOf 32 = .ok (.iconst (-1), 1) := by decide +kernel
theorem dX12_typeOf_33 : decode cX12_typeOf 33 = .ok (.if_icmp .ne 7, 3) := by decide +kernel
theorem dX12_typeOf_36 : decode cX12_typeOf 36 = .ok (.iconst 1, 1) := by decide +kernel
theorem dX12_typeOf_37 : decode cX12_typeOf 37 = .ok (.goto 18, 3) := by decide +kernel
theorem dX12_typeOf_40 : decode cX12_typeOf 40 = .ok (.aload_n 0, 1) := by decide +kernel
theorem dX12_typeOf_41 : decode cX12_typeOf 41 = .ok (.getfield 75, 3) := by decide +kernel
theorem dX12_typeOf_44 : decode cX12_typeOf 44 = .ok (.iload_n 3, 1) := by decide +kernel
theorem dX12_typeOf_45 : decode cX12_typeOf 45 = .ok (.iaload, 1) := by decide +kernel
theorem dX12_typeOf_46 : decode cX12_typeOf 46 = .ok (.iconst 2, 1) := by decide +kernel
theorem dX12_typeOf_47 : decode cX12_typeOf 47 = .ok (.if_icmp .ne 7, 3) := by decide +kernel
theorem dX12_typeOf_50 : decode cX12_typeOf 50 = .ok (.iconst 3, 1) := by decide +kernel
theorem dX12_typeOf_51 : decode cX12_typeOf 51 = .ok (.goto 4, 3) := by decide +kernel
theorem dX12_typeOf_54 : decode cX12_typeOf 54 = .ok (.iconst 2, 1) := by decide +kernel
theorem dX12_typeOf_55 : decode cX12_typeOf 55 = .ok (.ireturn, 1) := by decide +kernel
theorem dX12_isSameType_0 : decode cX12_isSameType 0 = .ok (.aload_n 0, 1) := by decide +kernel
theorem dX12_isSameType_1 : decode cX12_isSameType 1 = .ok (.iload_n 1, 1) := by decide +kernel
theorem dX12_isSameType_2 : decode cX12_isSameType 2 = .ok (.invokevirtual 330, 3) := by decide +kernel
theorem dX12_isSameType_5 : decode cX12_isSameType 5 = .ok (.ifCond .eq 15, 3) := by decide +kernel
theorem dX12_isSameType_8 : decode cX12_isSameType 8 = .ok (.aload_n 0, 1) := by decide +kernel
theorem dX12_isSameType_9 : decode cX12_isSameType 9 = .ok (.iload_n 3, 1) := by decide +kernel
theorem dX12_isSameType_10 : decode cX12_isSameType 10 = .ok (.invokevirtual 330, 3) := by decide +kernel
theorem dX12_isSameType_13 : decode cX12_isSameType 13 = .ok (.ifCond .eq 7, 3) := by decide +kernel
theorem dX12_isSameType_16 : decode cX12_isSameType 16 = .ok (.iconst 1, 1) := by decide +kernel
theorem dX12_isSameType_17 : decode cX12_isSameType 17 = .ok (.goto 4, 3) := by decide +kernel
theorem dX12_isSameType_20 : decode cX12_isSameType 20 = .ok (.iconst 0, 1) := by decide +kernel
theorem dX12_isSameType_21 : decode cX12_isSameType 21 = .ok (.istore 5, 2) := by decide +kernel
theorem dX12_isSameType_23 : decode cX12_isSameType 23 = .ok (.iload 5, 2) := by decide +kernel
theorem dX12_isSameType_25 : decode cX12_isSameType 25 = .ok (.ifCond .eq 14, 3) := by decide +kernel
theorem dX12_isSameType_28 : decode cX12_isSameType 28 = .ok (.aload_n 0, 1) := by decide +kernel
theorem dX12_isSameType_29 : decode cX12_isSameType 29 = .ok (.lconst 1, 1) := by decide +kernel
theorem dX12_isSameType_30 : decode cX12_isSameType 30 = .ok (.iload_n 1, 1) := by decide +kernel
theorem dX12_isSameType_31 : decode cX12_isSameType 31 = .ok (.lshl, 1) := by decide +kernel
theorem dX12_isSameType_32 : decode cX12_isSameType 32 = .ok (.lconst 1, 1) := by decide +kernel
theorem dX12_isSameType_33 : decode cX12_isSameType 33 = .ok (.iload_n 3, 1) := by decide +kernel
theorem dX12_isSameType_34 : decode cX12_isSameType 34 = .ok (.lshl, 1) := by decide +kernel
theorem dX12_isSameType_35 : decode cX12_isSameType 35 = .ok (.lor, 1) := by decide +kernel
theorem dX12_isSameType_36 : decode cX12_isSameType 36 = .ok (.invokevirtual 477, 3) := by decide +kernel
theorem dX12_isSameType_39 : decode cX12_isSameType 39 = .ok (.aload_n 0, 1) := by decide +kernel
theorem dX12_isSameType_40 : decode cX12_isSameType 40 = .ok (.iload 5, 2) := by decide +kernel
theorem dX12_isSameType_42 : decode cX12_isSameType 42 = .ok (.iload_n 2, 1) := by decide +kernel
theorem dX12_isSameType_43 : decode cX12_isSameType 43 = .ok (.invokestatic 291, 3) := by decide +kernel
theorem dX12_isSameType_46 : decode cX12_isSameType 46 = .ok (.ifCond .eq 15, 3) := by decide +kernel
theorem dX12_isSameType_49 : decode cX12_isSameType 49 = .ok (.iload 4, 2) := by decide +kernel
theorem dX12_isSameType_51 : decode cX12_isSameType 51 = .ok (.invokestatic 291, 3) := by decide +kernel
theorem dX12_isSameType_54 : decode cX12_isSameType 54 = .ok (.ifCond .eq 7, 3) := by decide +kernel
theorem dX12_isSameType_57 : decode cX12_isSameType 57 = .ok (.iconst 1, 1) := by decide +kernel
theorem dX12_isSameType_58 : decode cX12_isSameType 58 = .ok (.goto 4, 3) := by decide +kernel
theorem dX12_isSameType_61 : decode cX12_isSameType 61 = .ok (.iconst 0, 1) := by decide +kernel
theorem dX12_isSameType_62 : decode cX12_isSameType 62 = .ok (.iload 5, 2) := by decide +kernel
theorem dX12_isSameType_64 : decode cX12_isSameType 64 = .ok (.ifCond .eq 25, 3) := by decide +kernel
theorem dX12_isSameType_67 : decode cX12_isSameType 67 = .ok (.aload_n 0, 1) := by decide +kernel
theorem dX12_isSameType_68 : decode cX12_isSameType 68 = .ok (.getfield 139, 3) := by decide +kernel
theorem dX12_isSameType_71 : decode cX12_isSameType 71 = .ok (.iload_n 1, 1) := by decide +kernel
theorem dX12_isSameType_72 : decode cX12_isSameType 72 = .ok (.iaload, 1) := by decide +kernel
theorem dX12_isSameType_73 : decode cX12_isSameType 73 = .ok (.ifCond .ne 16, 3) := by decide +kernel
theorem dX12_isSameType_76 : decode cX12_isSameType 76 = .ok (.aload_n 0, 1) := by decide +kernel
theorem dX12_isSameType_77 : decode cX12_isSameType 77 = .ok (.getfield 139, 3) := by decide +kernel
theorem dX12_isSameType_80 : decode cX12_isSameType 80 = .ok (.iload_n 3, 1) := by decide +kernel
theorem dX12_isSameType_81 : decode cX12_isSameType 81 = .ok (.iaload, 1) := by decide +kernel
theorem dX12_isSameType_82 : decode cX12_isSameType 82 = .ok (.ifCond .ne 7, 3) := by decide +kernel
theorem dX12_isSameType_85 : decode cX12_isSameType 85 = .ok (.iconst 1, 1) := by decide +kernel
theorem dX12_isSameType_86 : decode cX12_isSameType 86 = .ok (.goto 4, 3) := by decide +kernel
theorem dX12_isSameType_89 : decode cX12_isSameType 89 = .ok (.iconst 0, 1) := by decide +kernel
theorem dX12_isSameType_90 : decode cX12_isSameType 90 = .ok (.invokevirtual 298, 3) := by decide +kernel
theorem dX12_isSameType_93 : decode cX12_isSameType 93 = .ok (.ifCond .ne 5, 3) := by decide +kernel
theorem dX12_isSameType_96 : decode cX12_isSameType 96 = .ok (.iconst 0, 1) := by decide +kernel
theorem dX12_isSameType_97 : decode cX12_isSameType 97 = .ok (.ireturn, 1) := by decide +kernel
theorem dX12_isSameType_98 : decode cX12_isSameType 98 = .ok (.aload_n 0, 1) := by decide +kernel
theorem dX12_isSameType_99 : decode cX12_isSameType 99 = .ok (.iload_n 1, 1) := by decide +kernel
theorem dX12_isSameType_100 : decode cX12_isSameType 100 = .ok (.iload_n 2, 1) := by decide +kernel
theorem dX12_isSameType_101 : decode cX12_isSameType 101 = .ok (.invokevirtual 413, 3) := by decide +kernel
theorem dX12_isSameType_104 : decode cX12_isSameType 104 = .ok (.ifCond .lt 23, 3) := by decide +kernel
theorem dX12_isSameType_107 : decode cX12_isSameType 107 = .ok (.aload_n 0, 1) := by decide +kernel
theorem dX12_isSameType_108 : decode cX12_isSameType 108 = .ok (.iload_n 1, 1) := by decide +kernel
theorem dX12_isSameType_109 : decode cX12_isSameType 109 = .ok (.iload_n 2, 1) := by decide +kernel
theorem dX12_isSameType_110 : decode cX12_isSameType 110 = .ok (.invokevirtual 413, 3) := by decide +kernel
theorem dX12_isSameType_113 : decode cX12_isSameType 113 = .ok (.aload_n 0, 1) := by decide +kernel
theorem dX12_isSameType_114 : decode cX12_isSameType 114 = .ok (.iload_n 3, 1) := by decide +kernel
theorem dX12_isSameType_115 : decode cX12_isSameType 115 = .ok (.iload 4, 2) := by decide +kernel
theorem dX12_isSameType_117 : decode cX12_isSameType 117 = .ok (.invokevirtual 413, 3) := by decide +kernel
theorem dX12_isSameType_120 : decode cX12_isSameType 120 = .ok (.if_icmp .ne 7, 3) := by decide +kernel
theorem dX12_isSameType_123 : decode cX12_isSameType 123 = .ok (.iconst 1, 1) := by decide +kernel
theorem dX12_isSameType_124 : decode cX12_isSameType 124 = .ok (.goto 4, 3) := by decide +kernel
theorem dX12_isSameType_127 : decode cX12_isSameType 127 = .ok (.iconst 0, 1) := by decide +kernel
theorem dX12_isSameType_128 : decode cX12_isSameType 128 = .ok (.ireturn, 1) := by decide +kernel
theorem dX12_valueOf_0 : decode cX12_valueOf 0 = .ok (.aload_n 0, 1) := by decide +kernel
theorem dX12_valueOf_1 : decode cX12_valueOf 1 = .ok (.iload_n 1, 1) := by decide +kernel
theorem dX12_valueOf_2 : decode cX12_valueOf 2 = .ok (.iload_n 2, 1) := by decide +kernel
theorem dX12_valueOf_3 : decode cX12_valueOf 3 = .ok (.invokestatic 302, 3) := by decide +kernel
theorem dX12_valueOf_6 : decode cX12_valueOf 6 = .ok (.invokevirtual 484, 3) := by decide +kernel
theorem dX12_valueOf_9 : decode cX12_valueOf 9 = .ok (.ifCond .eq 13, 3) := by decide +kernel
theorem dX12_valueOf_12 : decode cX12_valueOf 12 = .ok (.aload_n 0, 1) := by decide +kernel
theorem dX12_valueOf_13 : decode cX12_valueOf 13 = .ok (.iload_n 1, 1) := by decide +kernel
theorem dX12_valueOf_14 : decode cX12_valueOf 14 = .ok (.iload_n 2, 1) := by decide +kernel
theorem dX12_valueOf_15 : decode cX12_valueOf 15 = .ok (.invokevirtual 388, 3) := by decide +kernel
theorem dX12_valueOf_18 : decode cX12_valueOf 18 = .ok (.iconst (-1), 1) := by decide +kernel
theorem dX12_valueOf_19 : decode cX12_valueOf 19 = .ok (.if_icmp .ne 5, 3) := by decide +kernel
theorem dX12_valueOf_22 : decode cX12_valueOf 22 = .ok (.iconst 0, 1) := by decide +kernel
theorem dX12_valueOf_23 : decode cX12_valueOf 23 = .ok (.ireturn, 1) := by decide +kernel
theorem dX12_valueOf_24 : decode cX12_valueOf 24 = .ok (.aload_n 0, 1) := by decide +kernel
theorem dX12_valueOf_25 : decode cX12_valueOf 25 = .ok (.iload_n 1, 1) := by decide +kernel
theorem dX12_valueOf_26 : decode cX12_valueOf 26 = .ok (.iload_n 2, 1) := by decide +kernel
theorem dX12_valueOf_27 : decode cX12_valueOf 27 = .ok (.invokevirtual 398, 3) := by decide +kernel
theorem dX12_valueOf_30 : decode cX12_valueOf 30 = .ok (.ifCond .eq 7, 3) := by decide +kernel
theorem dX12_valueOf_33 : decode cX12_valueOf 33 = .ok (.iconst 1, 1) := by decide +kernel
theorem dX12_valueOf_34 : decode cX12_valueOf 34 = .ok (.goto 4, 3) := by decide +kernel
theorem dX12_valueOf_37 : decode cX12_valueOf 37 = .ok (.iconst 2, 1) := by decide +kernel
theorem dX12_valueOf_38 : decode cX12_valueOf 38 = .ok (.aload_n 0, 1) := by decide +kernel
theorem dX12_valueOf_39 : decode cX12_valueOf 39 = .ok (.iload_n 1, 1) := by decide +kernel
theorem dX12_valueOf_40 : decode cX12_valueOf 40 = .ok (.iload_n 2, 1) := by decide +kernel
theorem dX12_valueOf_41 : decode cX12_valueOf 41 = .ok (.invokevirtual 410, 3) := by decide +kernel
theorem dX12_valueOf_44 : decode cX12_valueOf 44 = .ok (.ifCond .eq 7, 3) := by decide +kernel
theorem dX12_valueOf_47 : decode cX12_valueOf 47 = .ok (.iconst 4, 1) := by decide +kernel
theorem dX12_valueOf_48 : decode cX12_valueOf 48 = .ok (.goto 4, 3) := by decide +kernel
theorem dX12_valueOf_51 : decode cX12_valueOf 51 = .ok (.iconst 0, 1) := by decide +kernel
theorem dX12_valueOf_52 : decode cX12_valueOf 52 = .ok (.iadd, 1) := by decide +kernel
theorem dX12_valueOf_53 : decode cX12_valueOf 53 = .ok (.ireturn, 1) := by decide +kernel
theorem dX12_size_0 : decode cX12_size 0 = .ok (.aload_n 0, 1) := by decide +kernel
theorem dX12_size_1 : decode cX12_size 1 = .ok (.iload_n 1, 1) := by decide +kernel
theorem dX12_size_2 : decode cX12_size 2 = .ok (.iload_n 2, 1) := by decide +kernel
theorem dX12_size_3 : decode cX12_size 3 = .ok (.invokestatic 302, 3) := by decide +kernel
theorem dX12_size_6 : decode cX12_size 6 = .ok (.invokevirtual 484, 3) := by decide +kernel
theorem dX12_size_9 : decode cX12_size 9 = .ok (.ifCond .eq 13, 3) := by decide +kernel
theorem dX12_size_12 : decode cX12_size 12 = .ok (.aload_n 0, 1) := by decide +kernel
theorem dX12_size_13 : decode cX12_size 13 = .ok (.iload_n 1, 1) := by decide +kernel
theorem dX12_size_14 : decode cX12_size 14 = .ok (.iload_n 2, 1) := by decide +kernel
theorem dX12_size_15 : decode cX12_size 15 = .ok (.invokevirtual 388, 3) := by decide +kernel
theorem dX12_size_18 : decode cX12_size 18 = .ok (.iconst (-1), 1) := by decide +kernel
theorem dX12_size_19 : decode cX12_size 19 = .ok (.if_icmp .ne 7, 3) := by decide +kernel
theorem dX12_size_22 : decode cX12_size 22 = .ok (.iconst 0, 1) := by decide +kernel
theorem dX12_size_23 : decode cX12_size 23 = .ok (.goto 14, 3) := by decide +kernel
theorem dX12_size_26 : decode cX12_size 26 = .ok (.aload_n 0, 1) := by decide +kernel
theorem dX12_size_27 : decode cX12_size 27 = .ok (.getfield 84, 3) := by decide +kernel
theorem dX12_size_30 : decode cX12_size 30 = .ok (.aload_n 0, 1) := by decide +kernel
theorem dX12_size_31 : decode cX12_size 31 = .ok (.iload_n 1, 1) := by decide +kernel
theorem dX12_size_32 : decode cX12_size 32 = .ok (.iload_n 2, 1) := by decide +kernel
theorem dX12_size_33 : decode cX12_size 33 = .ok (.invokevirtual 388, 3) := by decide +kernel
theorem dX12_size_36 : decode cX12_size 36 = .ok (.iaload, 1) := by decide +kernel
theorem dX12_size_37 : decode cX12_size 37 = .ok (.ireturn, 1) := by decide +kernel
theorem dX12_work_0 : decode cX12_work 0 = .ok (.aload_n 0, 1) := by decide +kernel
theorem dX12_work_1 : decode cX12_work 1 = .ok (.getfield 190, 3) := by decide +kernel
theorem dX12_work_4 : decode cX12_work 4 = .ok (.aload_n 0, 1) := by decide +kernel
theorem dX12_work_5 : decode cX12_work 5 = .ok (.getfield 488, 3) := by decide +kernel
theorem dX12_work_8 : decode cX12_work 8 = .ok (.iload_n 1, 1) := by decide +kernel
theorem dX12_work_9 : decode cX12_work 9 = .ok (.iastore, 1) := by decide +kernel
theorem dX12_work_10 : decode cX12_work 10 = .ok (.aload_n 0, 1) := by decide +kernel
theorem dX12_work_11 : decode cX12_work 11 = .ok (.getfield 193, 3) := by decide +kernel
theorem dX12_work_14 : decode cX12_work 14 = .ok (.aload_n 0, 1) := by decide +kernel
theorem dX12_work_15 : decode cX12_work 15 = .ok (.getfield 488, 3) := by decide +kernel
theorem dX12_work_18 : decode cX12_work 18 = .ok (.iload_n 2, 1) := by decide +kernel
theorem dX12_work_19 : decode cX12_work 19 = .ok (.iastore, 1) := by decide +kernel
theorem dX12_work_20 : decode cX12_work 20 = .ok (.aload_n 0, 1) := by decide +kernel
theorem dX12_work_21 : decode cX12_work 21 = .ok (.dup, 1) := by decide +kernel
theorem dX12_work_22 : decode cX12_work 22 = .ok (.getfield 488, 3) := by decide +kernel
theorem dX12_work_25 : decode cX12_work 25 = .ok (.iconst 1, 1) := by decide +kernel
theorem dX12_work_26 : decode cX12_work 26 = .ok (.iadd, 1) := by decide +kernel
theorem dX12_work_27 : decode cX12_work 27 = .ok (.putfield 488, 3) := by decide +kernel
theorem dX12_work_30 : decode cX12_work 30 = .ok (.return_, 1) := by decide +kernel
theorem dX12_rootOf_0 : decode cX12_rootOf 0 = .ok (.iload_n 1, 1) := by decide +kernel
theorem dX12_rootOf_1 : decode cX12_rootOf 1 = .ok (.istore_n 2, 1) := by decide +kernel
theorem dX12_rootOf_2 : decode cX12_rootOf 2 = .ok (.aload_n 0, 1) := by decide +kernel
theorem dX12_rootOf_3 : decode cX12_rootOf 3 = .ok (.getfield 172, 3) := by decide +kernel
theorem dX12_rootOf_6 : decode cX12_rootOf 6 = .ok (.iload_n 2, 1) := by decide +kernel
theorem dX12_rootOf_7 : decode cX12_rootOf 7 = .ok (.iaload, 1) := by decide +kernel
theorem dX12_rootOf_8 : decode cX12_rootOf 8 = .ok (.iload_n 2, 1) := by decide +kernel
theorem dX12_rootOf_9 : decode cX12_rootOf 9 = .ok (.if_icmp .eq 13, 3) := by decide +kernel
theorem dX12_rootOf_12 : decode cX12_rootOf 12 = .ok (.aload_n 0, 1) := by decide +kernel
theorem dX12_rootOf_13 : decode cX12_rootOf 13 = .ok (.getfield 172, 3) := by decide +kernel
theorem dX12_rootOf_16 : decode cX12_rootOf 16 = .ok (.iload_n 2, 1) := by decide +kernel
theorem dX12_rootOf_17 : decode cX12_rootOf 17 = .ok (.iaload, 1) := by decide +kernel
theorem dX12_rootOf_18 : decode cX12_rootOf 18 = .ok (.istore_n 2, 1) := by decide +kernel
theorem dX12_rootOf_19 : decode cX12_rootOf 19 = .ok (.goto (-17), 3) := by decide +kernel
theorem dX12_rootOf_22 : decode cX12_rootOf 22 = .ok (.iload_n 2, 1) := by decide +kernel
theorem dX12_rootOf_23 : decode cX12_rootOf 23 = .ok (.ireturn, 1) := by decide +kernel
theorem dX12_instance_0 : decode cX12_instance 0 = .ok (.aload_n 0, 1) := by decide +kernel
theorem dX12_instance_1 : decode cX12_instance 1 = .ok (.getfield 169, 3) := by decide +kernel
theorem dX12_instance_4 : decode cX12_instance 4 = .ok (.aload_n 0, 1) := by decide +kernel
theorem dX12_instance_5 : decode cX12_instance 5 = .ok (.getfield 491, 3) := by decide +kernel
theorem dX12_instance_8 : decode cX12_instance 8 = .ok (.iload_n 1, 1) := by decide +kernel
theorem dX12_instance_9 : decode cX12_instance 9 = .ok (.iastore, 1) := by decide +kernel
theorem dX12_instance_10 : decode cX12_instance 10 = .ok (.iconst 0, 1) := by decide +kernel
theorem dX12_instance_11 : decode cX12_instance 11 = .ok (.istore_n 2, 1) := by decide +kernel
theorem dX12_instance_12 : decode cX12_instance 12 = .ok (.iload_n 2, 1) := by decide +kernel
theorem dX12_instance_13 : decode cX12_instance 13 = .ok (.bipush 10, 2) := by decide +kernel
theorem dX12_instance_15 : decode cX12_instance 15 = .ok (.if_icmp .ge 177, 3) := by decide +kernel
theorem dX12_instance_18 : decode cX12_instance 18 = .ok (.bipush 10, 2) := by decide +kernel
theorem dX12_instance_20 : decode cX12_instance 20 = .ok (.iload_n 1, 1) := by decide +kernel
theorem dX12_instance_21 : decode cX12_instance 21 = .ok (.imul, 1) := by decide +kernel
theorem dX12_instance_22 : decode cX12_instance 22 = .ok (.iload_n 2, 1) := by decide +kernel
theorem dX12_instance_23 : decode cX12_instance 23 = .ok (.iadd, 1) := by decide +kernel
theorem dX12_instance_24 : decode cX12_instance 24 = .ok (.istore_n 3, 1) := by decide +kernel
theorem dX12_instance_25 : decode cX12_instance 25 = .ok (.bipush 10, 2) := by decide +kernel
theorem dX12_instance_27 : decode cX12_instance 27 = .ok (.aload_n 0, 1) := by decide +kernel
theorem dX12_instance_28 : decode cX12_instance 28 = .ok (.getfield 491, 3) := by decide +kernel
theorem dX12_instance_31 : decode cX12_instance 31 = .ok (.imul, 1) := by decide +kernel
theorem dX12_instance_32 : decode cX12_instance 32 = .ok (.iload_n 2, 1) := by decide +kernel
theorem dX12_instance_33 : decode cX12_instance 33 = .ok (.iadd, 1) := by decide +kernel
theorem dX12_instance_34 : decode cX12_instance 34 = .ok (.istore 4, 2) := by decide +kernel
theorem dX12_instance_36 : decode cX12_instance 36 = .ok (.aload_n 0, 1) := by decide +kernel
theorem dX12_instance_37 : decode cX12_instance 37 = .ok (.getfield 172, 3) := by decide +kernel
theorem dX12_instance_40 : decode cX12_instance 40 = .ok (.iload 4, 2) := by decide +kernel
theorem dX12_instance_42 : decode cX12_instance 42 = .ok (.iload 4, 2) := by decide +kernel
theorem dX12_instance_44 : decode cX12_instance 44 = .ok (.iastore, 1) := by decide +kernel
theorem dX12_instance_45 : decode cX12_instance 45 = .ok (.aload_n 0, 1) := by decide +kernel
theorem dX12_instance_46 : decode cX12_instance 46 = .ok (.getfield 46, 3) := by decide +kernel
theorem dX12_instance_49 : decode cX12_instance 49 = .ok (.iload_n 3, 1) := by decide +kernel
theorem dX12_instance_50 : decode cX12_instance 50 = .ok (.iaload, 1) := by decide +kernel
theorem dX12_instance_51 : decode cX12_instance 51 = .ok (.iconst (-1), 1) := by decide +kernel
theorem dX12_instance_52 : decode cX12_instance 52 = .ok (.if_icmp .eq 7, 3) := by decide +kernel
theorem dX12_instance_55 : decode cX12_instance 55 = .ok (.iconst 1, 1) := by decide +kernel
theorem dX12_instance_56 : decode cX12_instance 56 = .ok (.goto 4, 3) := by decide +kernel
theorem dX12_instance_59 : decode cX12_instance 59 = .ok (.iconst 0, 1) := by decide +kernel
theorem dX12_instance_60 : decode cX12_instance 60 = .ok (.istore 5, 2) := by decide +kernel
theorem dX12_instance_62 : decode cX12_instance 62 = .ok (.iload 5, 2) := by decide +kernel
theorem dX12_instance_64 : decode cX12_instance 64 = .ok (.ifCond .eq 18, 3) := by decide +kernel
theorem dX12_instance_67 : decode cX12_instance 67 = .ok (.aload_n 0, 1) := by decide +kernel
theorem dX12_instance_68 : decode cX12_instance 68 = .ok (.getfield 52, 3) := by decide +kernel
theorem dX12_instance_71 : decode cX12_instance 71 = .ok (.iload_n 3, 1) := by decide +kernel
theorem dX12_instance_72 : decode cX12_instance 72 = .ok (.iaload, 1) := by decide +kernel
theorem dX12_instance_73 : decode cX12_instance 73 = .ok (.iconst 4, 1) := by decide +kernel
theorem dX12_instance_74 : decode cX12_instance 74 = .ok (.iand, 1) := by decide +kernel
theorem dX12_instance_75 : decode cX12_instance 75 = .ok (.ifCond .eq 7, 3) := by decide +kernel
theorem dX12_instance_78 : decode cX12_instance 78 = .ok (.iconst 1, 1) := by decide +kernel
theorem dX12_instance_79 : decode cX12_instance 79 = .ok (.goto 4, 3) := by decide +kernel
theorem dX12_instance_82 : decode cX12_instance 82 = .ok (.iconst 0, 1) := by decide +kernel
theorem dX12_instance_83 : decode cX12_instance 83 = .ok (.istore 6, 2) := by decide +kernel
theorem dX12_instance_85 : decode cX12_instance 85 = .ok (.aload_n 0, 1) := by decide +kernel
theorem dX12_instance_86 : decode cX12_instance 86 = .ok (.getfield 175, 3) := by decide +kernel
theorem dX12_instance_89 : decode cX12_instance 89 = .ok (.iload 4, 2) := by decide +kernel
theorem dX12_instance_91 : decode cX12_instance 91 = .ok (.iload 5, 2) := by decide +kernel
theorem dX12_instance_93 : decode cX12_instance 93 = .ok (.ifCond .ne 8, 3) := by decide +kernel
theorem dX12_instance_96 : decode cX12_instance 96 = .ok (.bipush (-4), 2) := by decide +kernel
theorem dX12_instance_98 : decode cX12_instance 98 = .ok (.goto 31, 3) := by decide +kernel
theorem dX12_instance_101 : decode cX12_instance 101 = .ok (.aload_n 0, 1) := by decide +kernel
theorem dX12_instance_102 : decode cX12_instance 102 = .ok (.getfield 49, 3) := by decide +kernel
theorem dX12_instance_105 : decode cX12_instance 105 = .ok (.iload_n 3, 1) := by decide +kernel
theorem dX12_instance_106 : decode cX12_instance 106 = .ok (.iaload, 1) := by decide +kernel
theorem dX12_instance_107 : decode cX12_instance 107 = .ok (.iconst (-1), 1) := by decide +kernel
theorem dX12_instance_108 : decode cX12_instance 108 = .ok (.if_icmp .ne 7, 3) := by decide +kernel
theorem dX12_instance_111 : decode cX12_instance 111 = .ok (.iconst (-1), 1) := by decide +kernel
theorem dX12_instance_112 : decode cX12_instance 112 = .ok (.goto 17, 3) := by decide +kernel
theorem dX12_instance_115 : decode cX12_instance 115 = .ok (.iload 6, 2) := by decide +kernel
theorem dX12_instance_117 : decode cX12_instance 117 = .ok (.ifCond .eq 8, 3) := by decide +kernel
theorem dX12_instance_120 : decode cX12_instance 120 = .ok (.bipush (-3), 2) := by decide +kernel
theorem dX12_instance_122 : decode cX12_instance 122 = .ok (.goto 7, 3) := by decide +kernel
theorem dX12_instance_125 : decode cX12_instance 125 = .ok (.aload_n 0, 1) := by decide +kernel
theorem dX12_instance_126 : decode cX12_instance 126 = .ok (.getfield 494, 3) := by decide +kernel
theorem dX12_instance_129 : decode cX12_instance 129 = .ok (.iastore, 1) := by decide +kernel
theorem dX12_instance_130 : decode cX12_instance 130 = .ok (.aload_n 0, 1) := by decide +kernel
theorem dX12_instance_131 : decode cX12_instance 131 = .ok (.getfield 175, 3) := by decide +kernel
theorem dX12_instance_134 : decode cX12_instance 134 = .ok (.iload 4, 2) := by decide +kernel
theorem dX12_instance_136 : decode cX12_instance 136 = .ok (.iaload, 1) := by decide +kernel
theorem dX12_instance_137 : decode cX12_instance 137 = .ok (.ifCond .lt 24, 3) := by decide +kernel
theorem dX12_instance_140 : decode cX12_instance 140 = .ok (.aload_n 0, 1) := by decide +kernel
theorem dX12_instance_141 : decode cX12_instance 141 = .ok (.getfield 178, 3) := by decide +kernel
theorem dX12_instance_144 : decode cX12_instance 144 = .ok (.aload_n 0, 1) := by decide +kernel
theorem dX12_instance_145 : decode cX12_instance 145 = .ok (.getfield 494, 3) := by decide +kernel
theorem dX12_instance_148 : decode cX12_instance 148 = .ok (.iload 4, 2) := by decide +kernel
theorem dX12_instance_150 : decode cX12_instance 150 = .ok (.iastore, 1) := by decide +kernel
theorem dX12_instance_151 : decode cX12_instance 151 = .ok (.aload_n 0, 1) := by decide +kernel
theorem dX12_instance_152 : decode cX12_instance 152 = .ok (.dup, 1) := by decide +kernel
theorem dX12_instance_153 : decode cX12_instance 153 = .ok (.getfield 494, 3) := by decide +kernel
theorem dX12_instance_156 : decode cX12_instance 156 = .ok (.iconst 1, 1) := by decide +kernel
theorem dX12_instance_157 : decode cX12_instance 157 = .ok (.iadd, 1) := by decide +kernel
theorem dX12_instance_158 : decode cX12_instance 158 = .ok (.putfield 494, 3) := by decide +kernel
theorem dX12_instance_161 : decode cX12_instance 161 = .ok (.aload_n 0, 1) := by decide +kernel
theorem dX12_instance_162 : decode cX12_instance 162 = .ok (.getfield 181, 3) := by decide +kernel
theorem dX12_instance_165 : decode cX12_instance 165 = .ok (.bipush 10, 2) := by decide +kernel
theorem dX12_instance_167 : decode cX12_instance 167 = .ok (.aload_n 0, 1) := by decide +kernel
theorem dX12_instance_168 : decode cX12_instance 168 = .ok (.getfield 497, 3) := by decide +kernel
theorem dX12_instance_171 : decode cX12_instance 171 = .ok (.imul, 1) := by decide +kernel
theorem dX12_instance_172 : decode cX12_instance 172 = .ok (.iload_n 2, 1) := by decide +kernel
theorem dX12_instance_173 : decode cX12_instance 173 = .ok (.iadd, 1) := by decide +kernel
theorem dX12_instance_174 : decode cX12_instance 174 = .ok (.iload 5, 2) := by decide +kernel
theorem dX12_instance_176 : decode cX12_instance 176 = .ok (.ifCond .eq 8, 3) := by decide +kernel
theorem dX12_instance_179 : decode cX12_instance 179 = .ok (.iload 4, 2) := by decide +kernel
theorem dX12_instance_181 : decode cX12_instance 181 = .ok (.goto 4, 3) := by decide +kernel
theorem dX12_instance_184 : decode cX12_instance 184 = .ok (.iconst (-1), 1) := by decide +kernel
theorem dX12_instance_185 : decode cX12_instance 185 = .ok (.iastore, 1) := by decide +kernel
theorem dX12_instance_186 : decode cX12_instance 186 = .ok (.iinc 2 1, 3) := by decide +kernel
theorem dX12_instance_189 : decode cX12_instance 189 = .ok (.goto (-177), 3) := by decide +kernel
theorem dX12_instance_192 : decode cX12_instance 192 = .ok (.aload_n 0, 1) := by decide +kernel
theorem dX12_instance_193 : decode cX12_instance 193 = .ok (.dup, 1) := by decide +kernel
theorem dX12_instance_194 : decode cX12_instance 194 = .ok (.getfield 491, 3) := by decide +kernel
theorem dX12_instance_197 : decode cX12_instance 197 = .ok (.iconst 1, 1) := by decide +kernel
theorem dX12_instance_198 : decode cX12_instance 198 = .ok (.iadd, 1) := by decide +kernel
theorem dX12_instance_199 : decode cX12_instance 199 = .ok (.putfield 491, 3) := by decide +kernel
theorem dX12_instance_202 : decode cX12_instance 202 = .ok (.aload_n 0, 1) := by decide +kernel
theorem dX12_instance_203 : decode cX12_instance 203 = .ok (.dup, 1) := by decide +kernel
theorem dX12_instance_204 : decode cX12_instance 204 = .ok (.getfield 497, 3) := by decide +kernel
theorem dX12_instance_207 : decode cX12_instance 207 = .ok (.iconst 1, 1) := by decide +kernel
theorem dX12_instance_208 : decode cX12_instance 208 = .ok (.iadd, 1) := by decide +kernel
theorem dX12_instance_209 : decode cX12_instance 209 = .ok (.putfield 497, 3) := by decide +kernel
theorem dX12_instance_212 : decode cX12_instance 212 = .ok (.return_, 1) := by decide +kernel
theorem dX12_together_0 : decode cX12_together 0 = .ok (.aload_n 0, 1) := by decide +kernel
theorem dX12_together_1 : decode cX12_together 1 = .ok (.iload_n 1, 1) := by decide +kernel
theorem dX12_together_2 : decode cX12_together 2 = .ok (.invokevirtual 500, 3) := by decide +kernel
theorem dX12_together_5 : decode cX12_together 5 = .ok (.istore_n 3, 1) := by decide +kernel
theorem dX12_together_6 : decode cX12_together 6 = .ok (.aload_n 0, 1) := by decide +kernel
theorem dX12_together_7 : decode cX12_together 7 = .ok (.iload_n 2, 1) := by decide +kernel
theorem dX12_together_8 : decode cX12_together 8 = .ok (.invokevirtual 500, 3) := by decide +kernel
theorem dX12_together_11 : decode cX12_together 11 = .ok (.istore 4, 2) := by decide +kernel
theorem dX12_together_13 : decode cX12_together 13 = .ok (.aload_n 0, 1) := by decide +kernel
theorem dX12_together_14 : decode cX12_together 14 = .ok (.getfield 175, 3) := by decide +kernel
theorem dX12_together_17 : decode cX12_together 17 = .ok (.iload_n 3, 1) := by decide +kernel
theorem dX12_together_18 : decode cX12_together 18 = .ok (.iaload, 1) := by decide +kernel
theorem dX12_together_19 : decode cX12_together 19 = .ok (.iconst (-1), 1) := by decide +kernel
theorem dX12_together_20 : decode cX12_together 20 = .ok (.if_icmp .ne 14, 3) := by decide +kernel
theorem dX12_together_23 : decode cX12_together 23 = .ok (.aload_n 0, 1) := by decide +kernel
theorem dX12_together_24 : decode cX12_together 24 = .ok (.getfield 172, 3) := by decide +kernel
theorem dX12_together_27 : decode cX12_together 27 = .ok (.iload_n 3, 1) := by decide +kernel
theorem dX12_together_28 : decode cX12_together 28 = .ok (.iload 4, 2) := by decide +kernel
theorem dX12_together_30 : decode cX12_together 30 = .ok (.iastore, 1) := by decide +kernel
theorem dX12_together_31 : decode cX12_together 31 = .ok (.iload 4, 2) := by decide +kernel
theorem dX12_together_33 : decode cX12_together 33 = .ok (.ireturn, 1) := by decide +kernel
theorem dX12_together_34 : decode cX12_together 34 = .ok (.aload_n 0, 1) := by decide +kernel
theorem dX12_together_35 : decode cX12_together 35 = .ok (.getfield 172, 3) := by decide +kernel
theorem dX12_together_38 : decode cX12_together 38 = .ok (.iload 4, 2) := by decide +kernel
theorem dX12_together_40 : decode cX12_together 40 = .ok (.iload_n 3, 1) := by decide +kernel
theorem dX12_together_41 : decode cX12_together 41 = .ok (.iastore, 1) := by decide +kernel
theorem dX12_together_42 : decode cX12_together 42 = .ok (.iload_n 3, 1) := by decide +kernel
theorem dX12_together_43 : decode cX12_together 43 = .ok (.ireturn, 1) := by decide +kernel
theorem dX12_finishes_0 : decode cX12_finishes 0 = .ok (.bipush 10, 2) := by decide +kernel
theorem dX12_finishes_2 : decode cX12_finishes 2 = .ok (.aload_n 0, 1) := by decide +kernel
theorem dX12_finishes_3 : decode cX12_finishes 3 = .ok (.getfield 497, 3) := by decide +kernel
theorem dX12_finishes_6 : decode cX12_finishes 6 = .ok (.iconst 1, 1) := by decide +kernel
theorem dX12_finishes_7 : decode cX12_finishes 7 = .ok (.isub, 1) := by decide +kernel
theorem dX12_finishes_8 : decode cX12_finishes 8 = .ok (.imul, 1) := by decide +kernel
theorem dX12_finishes_9 : decode cX12_finishes 9 = .ok (.istore_n 2, 1) := by decide +kernel
theorem dX12_finishes_10 : decode cX12_finishes 10 = .ok (.aload_n 0, 1) := by decide +kernel
theorem dX12_finishes_11 : decode cX12_finishes 11 = .ok (.getfield 55, 3) := by decide +kernel
theorem dX12_finishes_14 : decode cX12_finishes 14 = .ok (.iload_n 1, 1) := by decide +kernel
theorem dX12_finishes_15 : decode cX12_finishes 15 = .ok (.iaload, 1) := by decide +kernel
theorem dX12_finishes_16 : decode cX12_finishes 16 = .ok (.istore_n 3, 1) := by decide +kernel
theorem dX12_finishes_17 : decode cX12_finishes 17 = .ok (.iload_n 3, 1) := by decide +kernel
theorem dX12_finishes_18 : decode cX12_finishes 18 = .ok (.iconst 1, 1) := by decide +kernel
theorem dX12_finishes_19 : decode cX12_finishes 19 = .ok (.if_icmp .eq 8, 3) := by decide +kernel
theorem dX12_finishes_22 : decode cX12_finishes 22 = .ok (.iload_n 3, 1) := by decide +kernel
theorem dX12_finishes_23 : decode cX12_finishes 23 = .ok (.iconst 3, 1) := by decide +kernel
theorem dX12_finishes_24 : decode cX12_finishes 24 = .ok (.if_icmp .ne 116, 3) := by decide +kernel
theorem dX12_finishes_27 : decode cX12_finishes 27 = .ok (.aload_n 0, 1) := by decide +kernel
theorem dX12_finishes_28 : decode cX12_finishes 28 = .ok (.dup, 1) := by decide +kernel
theorem dX12_finishes_29 : decode cX12_finishes 29 = .ok (.getfield 497, 3) := by decide +kernel
theorem dX12_finishes_32 : decode cX12_finishes 32 = .ok (.iconst 1, 1) := by decide +kernel
theorem dX12_finishes_33 : decode cX12_finishes 33 = .ok (.isub, 1) := by decide +kernel
theorem dX12_finishes_34 : decode cX12_finishes 34 = .ok (.putfield 497, 3) := by decide +kernel
theorem dX12_finishes_37 : decode cX12_finishes 37 = .ok (.iload_n 2, 1) := by decide +kernel
theorem dX12_finishes_38 : decode cX12_finishes 38 = .ok (.bipush 10, 2) := by decide +kernel
theorem dX12_finishes_40 : decode cX12_finishes 40 = .ok (.isub, 1) := by decide +kernel
theorem dX12_finishes_41 : decode cX12_finishes 41 = .ok (.istore 4, 2) := by decide +kernel
theorem dX12_finishes_43 : decode cX12_finishes 43 = .ok (.iconst 0, 1) := by decide +kernel
theorem dX12_finishes_44 : decode cX12_finishes 44 = .ok (.istore 5, 2) := by decide +kernel
theorem dX12_finishes_46 : decode cX12_finishes 46 = .ok (.iload 5, 2) := by decide +kernel
theorem dX12_finishes_48 : decode cX12_finishes 48 = .ok (.bipush 10, 2) := by decide +kernel
theorem dX12_finishes_50 : decode cX12_finishes 50 = .ok (.if_icmp .ge 87, 3) := by decide +kernel
theorem dX12_finishes_53 : decode cX12_finishes 53 = .ok (.aload_n 0, 1) := by decide +kernel
theorem dX12_finishes_54 : decode cX12_finishes 54 = .ok (.getfield 181, 3) := by decide +kernel
theorem dX12_finishes_57 : decode cX12_finishes 57 = .ok (.iload 4, 2) := by decide +kernel
theorem dX12_finishes_59 : decode cX12_finishes 59 = .ok (.iload 5, 2) := by decide +kernel
theorem dX12_finishes_61 : decode cX12_finishes 61 = .ok (.iadd, 1) := by decide +kernel
theorem dX12_finishes_62 : decode cX12_finishes 62 = .ok (.iaload, 1) := by decide +kernel
theorem dX12_finishes_63 : decode cX12_finishes 63 = .ok (.istore 6, 2) := by decide +kernel
theorem dX12_finishes_65 : decode cX12_finishes 65 = .ok (.aload_n 0, 1) := by decide +kernel
theorem dX12_finishes_66 : decode cX12_finishes 66 = .ok (.getfield 181, 3) := by decide +kernel
theorem dX12_finishes_69 : decode cX12_finishes 69 = .ok (.iload_n 2, 1) := by decide +kernel
theorem dX12_finishes_70 : decode cX12_finishes 70 = .ok (.iload 5, 2) := by decide +kernel
theorem dX12_finishes_72 : decode cX12_finishes 72 = .ok (.iadd, 1) := by decide +kernel
theorem dX12_finishes_73 : decode cX12_finishes 73 = .ok (.iaload, 1) := by decide +kernel
theorem dX12_finishes_74 : decode cX12_finishes 74 = .ok (.istore 7, 2) := by decide +kernel
theorem dX12_finishes_76 : decode cX12_finishes 76 = .ok (.aload_n 0, 1) := by decide +kernel
theorem dX12_finishes_77 : decode cX12_finishes 77 = .ok (.getfield 181, 3) := by decide +kernel
theorem dX12_finishes_80 : decode cX12_finishes 80 = .ok (.iload 4, 2) := by decide +kernel
theorem dX12_finishes_82 : decode cX12_finishes 82 = .ok (.iload 5, 2) := by decide +kernel
theorem dX12_finishes_84 : decode cX12_finishes 84 = .ok (.iadd, 1) := by decide +kernel
theorem dX12_finishes_85 : decode cX12_finishes 85 = .ok (.iload 6, 2) := by decide +kernel
theorem dX12_finishes_87 : decode cX12_finishes 87 = .ok (.iconst (-1), 1) := by decide +kernel
theorem dX12_finishes_88 : decode cX12_finishes 88 = .ok (.if_icmp .eq 20, 3) := by decide +kernel
theorem dX12_finishes_91 : decode cX12_finishes 91 = .ok (.iload 7, 2) := by decide +kernel
theorem dX12_finishes_93 : decode cX12_finishes 93 = .ok (.iconst (-1), 1) := by decide +kernel
theorem dX12_finishes_94 : decode cX12_finishes 94 = .ok (.if_icmp .eq 14, 3) := by decide +kernel
theorem dX12_finishes_97 : decode cX12_finishes 97 = .ok (.aload_n 0, 1) := by decide +kernel
theorem dX12_finishes_98 : decode cX12_finishes 98 = .ok (.iload 6, 2) := by decide +kernel
theorem dX12_finishes_100 : decode cX12_finishes 100 = .ok (.iload 7, 2) := by decide +kernel
theorem dX12_finishes_102 : decode cX12_finishes 102 = .ok (.invokevirtual 503, 3) := by decide +kernel
theorem dX12_finishes_105 : decode cX12_finishes 105 = .ok (.goto 25, 3) := by decide +kernel
theorem dX12_finishes_108 : decode cX12_finishes 108 = .ok (.iload 6, 2) := by decide +kernel
theorem dX12_finishes_110 : decode cX12_finishes 110 = .ok (.iconst (-1), 1) := by decide +kernel
theorem dX12_finishes_111 : decode cX12_finishes 111 = .ok (.if_icmp .eq 8, 3) := by decide +kernel
theorem dX12_finishes_114 : decode cX12_finishes 114 = .ok (.iload 6, 2) := by decide +kernel
theorem dX12_finishes_116 : decode cX12_finishes 116 = .ok (.goto 14, 3) := by decide +kernel
theorem dX12_finishes_119 : decode cX12_finishes 119 = .ok (.iload_n 3, 1) := by decide +kernel
theorem dX12_finishes_120 : decode cX12_finishes 120 = .ok (.iconst 1, 1) := by decide +kernel
theorem dX12_finishes_121 : decode cX12_finishes 121 = .ok (.if_icmp .ne 8, 3) := by decide +kernel
theorem dX12_finishes_124 : decode cX12_finishes 124 = .ok (.iload 7, 2) := by decide +kernel
theorem dX12_finishes_126 : decode cX12_finishes 126 = .ok (.goto 4, 3) := by decide +kernel
theorem dX12_finishes_129 : decode cX12_finishes 129 = .ok (.iconst (-1), 1) := by decide +kernel
theorem dX12_finishes_130 : decode cX12_finishes 130 = .ok (.iastore, 1) := by decide +kernel
theorem dX12_finishes_131 : decode cX12_finishes 131 = .ok (.iinc 5 1, 3) := by decide +kernel
theorem dX12_finishes_134 : decode cX12_finishes 134 = .ok (.goto (-88), 3) := by decide +kernel
theorem dX12_finishes_137 : decode cX12_finishes 137 = .ok (.goto 115, 3) := by decide +kernel
theorem dX12_finishes_140 : decode cX12_finishes 140 = .ok (.iload_n 3, 1) := by decide +kernel
theorem dX12_finishes_141 : decode cX12_finishes 141 = .ok (.iconst 2, 1) := by decide +kernel
theorem dX12_finishes_142 : decode cX12_finishes 142 = .ok (.if_icmp .ne 60, 3) := by decide +kernel
theorem dX12_finishes_145 : decode cX12_finishes 145 = .ok (.iconst 0, 1) := by decide +kernel
theorem dX12_finishes_146 : decode cX12_finishes 146 = .ok (.istore 4, 2) := by decide +kernel
theorem dX12_finishes_148 : decode cX12_finishes 148 = .ok (.iload 4, 2) := by decide +kernel
theorem dX12_finishes_150 : decode cX12_finishes 150 = .ok (.bipush 10, 2) := by decide +kernel
theorem dX12_finishes_152 : decode cX12_finishes 152 = .ok (.if_icmp .ge 47, 3) := by decide +kernel
theorem dX12_finishes_155 : decode cX12_finishes 155 = .ok (.aload_n 0, 1) := by decide +kernel
theorem dX12_finishes_156 : decode cX12_finishes 156 = .ok (.getfield 181, 3) := by decide +kernel
theorem dX12_finishes_159 : decode cX12_finishes 159 = .ok (.iload_n 2, 1) := by decide +kernel
theorem dX12_finishes_160 : decode cX12_finishes 160 = .ok (.iload 4, 2) := by decide +kernel
theorem dX12_finishes_162 : decode cX12_finishes 162 = .ok (.iadd, 1) := by decide +kernel
theorem dX12_finishes_163 : decode cX12_finishes 163 = .ok (.aload_n 0, 1) := by decide +kernel
theorem dX12_finishes_164 : decode cX12_finishes 164 = .ok (.aload_n 0, 1) := by decide +kernel
theorem dX12_finishes_165 : decode cX12_finishes 165 = .ok (.getfield 61, 3) := by decide +kernel
theorem dX12_finishes_168 : decode cX12_finishes 168 = .ok (.iload_n 1, 1) := by decide +kernel
theorem dX12_finishes_169 : decode cX12_finishes 169 = .ok (.iaload, 1) := by decide +kernel
theorem dX12_finishes_170 : decode cX12_finishes 170 = .ok (.iload 4, 2) := by decide +kernel
theorem dX12_finishes_172 : decode cX12_finishes 172 = .ok (.invokevirtual 388, 3) := by decide +kernel
theorem dX12_finishes_175 : decode cX12_finishes 175 = .ok (.iconst (-1), 1) := by decide +kernel
theorem dX12_finishes_176 : decode cX12_finishes 176 = .ok (.if_icmp .ne 7, 3) := by decide +kernel
theorem dX12_finishes_179 : decode cX12_finishes 179 = .ok (.iconst (-1), 1) := by decide +kernel
theorem dX12_finishes_180 : decode cX12_finishes 180 = .ok (.goto 12, 3) := by decide +kernel
theorem dX12_finishes_183 : decode cX12_finishes 183 = .ok (.aload_n 0, 1) := by decide +kernel
theorem dX12_finishes_184 : decode cX12_finishes 184 = .ok (.getfield 181, 3) := by decide +kernel
theorem dX12_finishes_187 : decode cX12_finishes 187 = .ok (.iload_n 2, 1) := by decide +kernel
theorem dX12_finishes_188 : decode cX12_finishes 188 = .ok (.iload 4, 2) := by decide +kernel
theorem dX12_finishes_190 : decode cX12_finishes 190 = .ok (.iadd, 1) := by decide +kernel
theorem dX12_finishes_191 : decode cX12_finishes 191 = .ok (.iaload, 1) := by decide +kernel
theorem dX12_finishes_192 : decode cX12_finishes 192 = .ok (.iastore, 1) := by decide +kernel
theorem dX12_finishes_193 : decode cX12_finishes 193 = .ok (.iinc 4 1, 3) := by decide +kernel
theorem dX12_finishes_196 : decode cX12_finishes 196 = .ok (.goto (-48), 3) := by decide +kernel
theorem dX12_finishes_199 : decode cX12_finishes 199 = .ok (.goto 53, 3) := by decide +kernel
theorem dX12_finishes_202 : decode cX12_finishes 202 = .ok (.iload_n 3, 1) := by decide +kernel
theorem dX12_finishes_203 : decode cX12_finishes 203 = .ok (.iconst 5, 1) := by decide +kernel
theorem dX12_finishes_204 : decode cX12_finishes 204 = .ok (.if_icmp .lt 48, 3) := by decide +kernel
theorem dX12_finishes_207 : decode cX12_finishes 207 = .ok (.iload_n 3, 1) := by decide +kernel
theorem dX12_finishes_208 : decode cX12_finishes 208 = .ok (.iconst 5, 1) := by decide +kernel
theorem dX12_finishes_209 : decode cX12_finishes 209 = .ok (.if_icmp .ne 29, 3) := by decide +kernel
theorem dX12_finishes_212 : decode cX12_finishes 212 = .ok (.aload_n 0, 1) := by decide +kernel
theorem dX12_finishes_213 : decode cX12_finishes 213 = .ok (.getfield 181, 3) := by decide +kernel
theorem dX12_finishes_216 : decode cX12_finishes 216 = .ok (.iload_n 2, 1) := by decide +kernel
theorem dX12_finishes_217 : decode cX12_finishes 217 = .ok (.aload_n 0, 1) := by decide +kernel
theorem dX12_finishes_218 : decode cX12_finishes 218 = .ok (.getfield 64, 3) := by decide +kernel
theorem dX12_finishes_221 : decode cX12_finishes 221 = .ok (.iload_n 1, 1) := by decide +kernel
theorem dX12_finishes_222 : decode cX12_finishes 222 = .ok (.iaload, 1) := by decide +kernel
theorem dX12_finishes_223 : decode cX12_finishes 223 = .ok (.iadd, 1) := by decide +kernel
theorem dX12_finishes_224 : decode cX12_finishes 224 = .ok (.aload_n 0, 1) := by decide +kernel
theorem dX12_finishes_225 : decode cX12_finishes 225 = .ok (.getfield 181, 3) := by decide +kernel
theorem dX12_finishes_228 : decode cX12_finishes 228 = .ok (.iload_n 2, 1) := by decide +kernel
theorem dX12_finishes_229 : decode cX12_finishes 229 = .ok (.aload_n 0, 1) := by decide +kernel
theorem dX12_finishes_230 : decode cX12_finishes 230 = .ok (.getfield 61, 3) := by decide +kernel
theorem dX12_finishes_233 : decode cX12_finishes 233 = .ok (.iload_n 1, 1) := by decide +kernel
theorem dX12_finishes_234 : decode cX12_finishes 234 = .ok (.iaload, 1) := by decide +kernel
theorem dX12_finishes_235 : decode cX12_finishes 235 = .ok (.iadd, 1) := by decide +kernel
theorem dX12_finishes_236 : decode cX12_finishes 236 = .ok (.iaload, 1) := by decide +kernel
theorem dX12_finishes_237 : decode cX12_finishes 237 = .ok (.iastore, 1) := by decide +kernel
theorem dX12_finishes_238 : decode cX12_finishes 238 = .ok (.aload_n 0, 1) := by decide +kernel
theorem dX12_finishes_239 : decode cX12_finishes 239 = .ok (.getfield 181, 3) := by decide +kernel
theorem dX12_finishes_242 : decode cX12_finishes 242 = .ok (.iload_n 2, 1) := by decide +kernel
theorem dX12_finishes_243 : decode cX12_finishes 243 = .ok (.aload_n 0, 1) := by decide +kernel
theorem dX12_finishes_244 : decode cX12_finishes 244 = .ok (.getfield 61, 3) := by decide +kernel
theorem dX12_finishes_247 : decode cX12_finishes 247 = .ok (.iload_n 1, 1) := by decide +kernel
theorem dX12_finishes_248 : decode cX12_finishes 248 = .ok (.iaload, 1) := by decide +kernel
theorem dX12_finishes_249 : decode cX12_finishes 249 = .ok (.iadd, 1) := by decide +kernel
theorem dX12_finishes_250 : decode cX12_finishes 250 = .ok (.iconst (-1), 1) := by decide +kernel
theorem dX12_finishes_251 : decode cX12_finishes 251 = .ok (.iastore, 1) := by decide +kernel
theorem dX12_finishes_252 : decode cX12_finishes 252 = .ok (.return_, 1) := by decide +kernel
theorem dX12_lays_0 : decode cX12_lays 0 = .ok (.aload_n 0, 1) := by decide +kernel
theorem dX12_lays_1 : decode cX12_lays 1 = .ok (.iconst 0, 1) := by decide +kernel
theorem dX12_lays_2 : decode cX12_lays 2 = .ok (.putfield 491, 3) := by decide +kernel
theorem dX12_lays_5 : decode cX12_lays 5 = .ok (.aload_n 0, 1) := by decide +kernel
theorem dX12_lays_6 : decode cX12_lays 6 = .ok (.iconst 0, 1) := by decide +kernel
theorem dX12_lays_7 : decode cX12_lays 7 = .ok (.putfield 494, 3) := by decide +kernel
theorem dX12_lays_10 : decode cX12_lays 10 = .ok (.aload_n 0, 1) := by decide +kernel
theorem dX12_lays_11 : decode cX12_lays 11 = .ok (.iconst 0, 1) := by decide +kernel
theorem dX12_lays_12 : decode cX12_lays 12 = .ok (.putfield 497, 3) := by decide +kernel
theorem dX12_lays_15 : decode cX12_lays 15 = .ok (.aload_n 0, 1) := by decide +kernel
theorem dX12_lays_16 : decode cX12_lays 16 = .ok (.iconst 0, 1) := by decide +kernel
theorem dX12_lays_17 : decode cX12_lays 17 = .ok (.putfield 488, 3) := by decide +kernel
theorem dX12_lays_20 : decode cX12_lays 20 = .ok (.aload_n 0, 1) := by decide +kernel
theorem dX12_lays_21 : decode cX12_lays 21 = .ok (.iload_n 1, 1) := by decide +kernel
theorem dX12_lays_22 : decode cX12_lays 22 = .ok (.iconst 0, 1) := by decide +kernel
theorem dX12_lays_23 : decode cX12_lays 23 = .ok (.invokevirtual 506, 3) := by decide +kernel
theorem dX12_lays_26 : decode cX12_lays 26 = .ok (.aload_n 0, 1) := by decide +kernel
theorem dX12_lays_27 : decode cX12_lays 27 = .ok (.getfield 488, 3) := by decide +kernel
theorem dX12_lays_30 : decode cX12_lays 30 = .ok (.ifCond .le 143, 3) := by decide +kernel
theorem dX12_lays_33 : decode cX12_lays 33 = .ok (.aload_n 0, 1) := by decide +kernel
theorem dX12_lays_34 : decode cX12_lays 34 = .ok (.dup, 1) := by decide +kernel
theorem dX12_lays_35 : decode cX12_lays 35 = .ok (.getfield 488, 3) := by decide +kernel
theorem dX12_lays_38 : decode cX12_lays 38 = .ok (.iconst 1, 1) := by decide +kernel
theorem dX12_lays_39 : decode cX12_lays 39 = .ok (.isub, 1) := by decide +kernel
theorem dX12_lays_40 : decode cX12_lays 40 = .ok (.putfield 488, 3) := by decide +kernel
theorem dX12_lays_43 : decode cX12_lays 43 = .ok (.aload_n 0, 1) := by decide +kernel
theorem dX12_lays_44 : decode cX12_lays 44 = .ok (.getfield 190, 3) := by decide +kernel
theorem dX12_lays_47 : decode cX12_lays 47 = .ok (.aload_n 0, 1) := by decide +kernel
theorem dX12_lays_48 : decode cX12_lays 48 = .ok (.getfield 488, 3) := by decide +kernel
theorem dX12_lays_51 : decode cX12_lays 51 = .ok (.iaload, 1) := by decide +kernel
theorem dX12_lays_52 : decode cX12_lays 52 = .ok (.istore_n 2, 1) := by decide +kernel
theorem dX12_lays_53 : decode cX12_lays 53 = .ok (.aload_n 0, 1) := by decide +kernel
theorem dX12_lays_54 : decode cX12_lays 54 = .ok (.getfield 55, 3) := by decide +kernel
theorem dX12_lays_57 : decode cX12_lays 57 = .ok (.iload_n 2, 1) := by decide +kernel
theorem dX12_lays_58 : decode cX12_lays 58 = .ok (.iaload, 1) := by decide +kernel
theorem dX12_lays_59 : decode cX12_lays 59 = .ok (.istore_n 3, 1) := by decide +kernel
theorem dX12_lays_60 : decode cX12_lays 60 = .ok (.aload_n 0, 1) := by decide +kernel
theorem dX12_lays_61 : decode cX12_lays 61 = .ok (.getfield 193, 3) := by decide +kernel
theorem dX12_lays_64 : decode cX12_lays 64 = .ok (.aload_n 0, 1) := by decide +kernel
theorem dX12_lays_65 : decode cX12_lays 65 = .ok (.getfield 488, 3) := by decide +kernel
theorem dX12_lays_68 : decode cX12_lays 68 = .ok (.iaload, 1) := by decide +kernel
theorem dX12_lays_69 : decode cX12_lays 69 = .ok (.iconst 1, 1) := by decide +kernel
theorem dX12_lays_70 : decode cX12_lays 70 = .ok (.if_icmp .ne 11, 3) := by decide +kernel
theorem dX12_lays_73 : decode cX12_lays 73 = .ok (.aload_n 0, 1) := by decide +kernel
theorem dX12_lays_74 : decode cX12_lays 74 = .ok (.iload_n 2, 1) := by decide +kernel
theorem dX12_lays_75 : decode cX12_lays 75 = .ok (.invokevirtual 509, 3) := by decide +kernel
theorem dX12_lays_78 : decode cX12_lays 78 = .ok (.goto 92, 3) := by decide +kernel
theorem dX12_lays_81 : decode cX12_lays 81 = .ok (.iload_n 3, 1) := by decide +kernel
theorem dX12_lays_82 : decode cX12_lays 82 = .ok (.ifCond .ne 15, 3) := by decide +kernel
theorem dX12_lays_85 : decode cX12_lays 85 = .ok (.aload_n 0, 1) := by decide +kernel
theorem dX12_lays_86 : decode cX12_lays 86 = .ok (.aload_n 0, 1) := by decide +kernel
theorem dX12_lays_87 : decode cX12_lays 87 = .ok (.iload_n 2, 1) := by decide +kernel
theorem dX12_lays_88 : decode cX12_lays 88 = .ok (.invokevirtual 440, 3) := by decide +kernel
theorem dX12_lays_91 : decode cX12_lays 91 = .ok (.invokevirtual 512, 3) := by decide +kernel
theorem dX12_lays_94 : decode cX12_lays 94 = .ok (.goto 76, 3) := by decide +kernel
theorem dX12_lays_97 : decode cX12_lays 97 = .ok (.iload_n 3, 1) := by decide +kernel
theorem dX12_lays_98 : decode cX12_lays 98 = .ok (.iconst 4, 1) := by decide +kernel
theorem dX12_lays_99 : decode cX12_lays 99 = .ok (.if_icmp .ne 19, 3) := by decide +kernel
theorem dX12_lays_102 : decode cX12_lays 102 = .ok (.aload_n 0, 1) := by decide +kernel
theorem dX12_lays_103 : decode cX12_lays 103 = .ok (.getfield 184, 3) := by decide +kernel
theorem dX12_lays_106 : decode cX12_lays 106 = .ok (.iload_n 2, 1) := by decide +kernel
theorem dX12_lays_107 : decode cX12_lays 107 = .ok (.iaload, 1) := by decide +kernel
theorem dX12_lays_108 : decode cX12_lays 108 = .ok (.ifCond .eq 10, 3) := by decide +kernel
theorem dX12_lays_111 : decode cX12_lays 111 = .ok (.aload_n 0, 1) := by decide +kernel
theorem dX12_lays_112 : decode cX12_lays 112 = .ok (.getfield 184, 3) := by decide +kernel
theorem dX12_lays_115 : decode cX12_lays 115 = .ok (.iload_n 2, 1) := by decide +kernel
theorem dX12_lays_116 : decode cX12_lays 116 = .ok (.iaload, 1) := by decide +kernel
theorem dX12_lays_117 : decode cX12_lays 117 = .ok (.ireturn, 1) := by decide +kernel
theorem dX12_lays_118 : decode cX12_lays 118 = .ok (.aload_n 0, 1) := by decide +kernel
theorem dX12_lays_119 : decode cX12_lays 119 = .ok (.iload_n 2, 1) := by decide +kernel
theorem dX12_lays_120 : decode cX12_lays 120 = .ok (.iconst 1, 1) := by decide +kernel
theorem dX12_lays_121 : decode cX12_lays 121 = .ok (.invokevirtual 506, 3) := by decide +kernel
theorem dX12_lays_124 : decode cX12_lays 124 = .ok (.iload_n 3, 1) := by decide +kernel
theorem dX12_lays_125 : decode cX12_lays 125 = .ok (.iconst 1, 1) := by decide +kernel
theorem dX12_lays_126 : decode cX12_lays 126 = .ok (.if_icmp .eq 8, 3) := by decide +kernel
theorem dX12_lays_129 : decode cX12_lays 129 = .ok (.iload_n 3, 1) := by decide +kernel
theorem dX12_lays_130 : decode cX12_lays 130 = .ok (.iconst 3, 1) := by decide +kernel
theorem dX12_lays_131 : decode cX12_lays 131 = .ok (.if_icmp .ne 14, 3) := by decide +kernel
theorem dX12_lays_134 : decode cX12_lays 134 = .ok (.aload_n 0, 1) := by decide +kernel
theorem dX12_lays_135 : decode cX12_lays 135 = .ok (.aload_n 0, 1) := by decide +kernel
theorem dX12_lays_136 : decode cX12_lays 136 = .ok (.getfield 61, 3) := by decide +kernel
theorem dX12_lays_139 : decode cX12_lays 139 = .ok (.iload_n 2, 1) := by decide +kernel
theorem dX12_lays_140 : decode cX12_lays 140 = .ok (.iaload, 1) := by decide +kernel
theorem dX12_lays_141 : decode cX12_lays 141 = .ok (.iconst 0, 1) := by decide +kernel
theorem dX12_lays_142 : decode cX12_lays 142 = .ok (.invokevirtual 506, 3) := by decide +kernel
theorem dX12_lays_145 : decode cX12_lays 145 = .ok (.aload_n 0, 1) := by decide +kernel
theorem dX12_lays_146 : decode cX12_lays 146 = .ok (.iload_n 3, 1) := by decide +kernel
theorem dX12_lays_147 : decode cX12_lays 147 = .ok (.iconst 4, 1) := by decide +kernel
theorem dX12_lays_148 : decode cX12_lays 148 = .ok (.if_icmp .ne 12, 3) := by decide +kernel
theorem dX12_lays_151 : decode cX12_lays 151 = .ok (.aload_n 0, 1) := by decide +kernel
theorem dX12_lays_152 : decode cX12_lays 152 = .ok (.getfield 187, 3) := by decide +kernel
theorem dX12_lays_155 : decode cX12_lays 155 = .ok (.iload_n 2, 1) := by decide +kernel
theorem dX12_lays_156 : decode cX12_lays 156 = .ok (.iaload, 1) := by decide +kernel
theorem dX12_lays_157 : decode cX12_lays 157 = .ok (.goto 9, 3) := by decide +kernel
theorem dX12_lays_160 : decode cX12_lays 160 = .ok (.aload_n 0, 1) := by decide +kernel
theorem dX12_lays_161 : decode cX12_lays 161 = .ok (.getfield 58, 3) := by decide +kernel
theorem dX12_lays_164 : decode cX12_lays 164 = .ok (.iload_n 2, 1) := by decide +kernel
theorem dX12_lays_165 : decode cX12_lays 165 = .ok (.iaload, 1) := by decide +kernel
theorem dX12_lays_166 : decode cX12_lays 166 = .ok (.iconst 0, 1) := by decide +kernel
theorem dX12_lays_167 : decode cX12_lays 167 = .ok (.invokevirtual 506, 3) := by decide +kernel
theorem dX12_lays_170 : decode cX12_lays 170 = .ok (.goto (-144), 3) := by decide +kernel
theorem dX12_lays_173 : decode cX12_lays 173 = .ok (.iconst 0, 1) := by decide +kernel
theorem dX12_lays_174 : decode cX12_lays 174 = .ok (.ireturn, 1) := by decide +kernel
theorem dX12_expressionOf_0 : decode cX12_expressionOf 0 = .ok (.aload_n 0, 1) := by decide +kernel
theorem dX12_expressionOf_1 : decode cX12_expressionOf 1 = .ok (.getfield 178, 3) := by decide +kernel
theorem dX12_expressionOf_4 : decode cX12_expressionOf 4 = .ok (.iload_n 1, 1) := by decide +kernel
theorem dX12_expressionOf_5 : decode cX12_expressionOf 5 = .ok (.iaload, 1) := by decide +kernel
theorem dX12_expressionOf_6 : decode cX12_expressionOf 6 = .ok (.istore_n 2, 1) := by decide +kernel
theorem dX12_expressionOf_7 : decode cX12_expressionOf 7 = .ok (.aload_n 0, 1) := by decide +kernel
theorem dX12_expressionOf_8 : decode cX12_expressionOf 8 = .ok (.getfield 49, 3) := by decide +kernel
theorem dX12_expressionOf_11 : decode cX12_expressionOf 11 = .ok (.bipush 10, 2) := by decide +kernel
theorem dX12_expressionOf_13 : decode cX12_expressionOf 13 = .ok (.aload_n 0, 1) := by decide +kernel
theorem dX12_expressionOf_14 : decode cX12_expressionOf 14 = .ok (.getfield 169, 3) := by decide +kernel
theorem dX12_expressionOf_17 : decode cX12_expressionOf 17 = .ok (.iload_n 2, 1) := by decide +kernel
theorem dX12_expressionOf_18 : decode cX12_expressionOf 18 = .ok (.bipush 10, 2) := by decide +kernel
theorem dX12_expressionOf_20 : decode cX12_expressionOf 20 = .ok (.idiv, 1) := by decide +kernel
theorem dX12_expressionOf_21 : decode cX12_expressionOf 21 = .ok (.iaload, 1) := by decide +kernel
theorem dX12_expressionOf_22 : decode cX12_expressionOf 22 = .ok (.imul, 1) := by decide +kernel
theorem dX12_expressionOf_23 : decode cX12_expressionOf 23 = .ok (.iload_n 2, 1) := by decide +kernel
theorem dX12_expressionOf_24 : decode cX12_expressionOf 24 = .ok (.bipush 10, 2) := by decide +kernel
theorem dX12_expressionOf_26 : decode cX12_expressionOf 26 = .ok (.irem, 1) := by decide +kernel
theorem dX12_expressionOf_27 : decode cX12_expressionOf 27 = .ok (.iadd, 1) := by decide +kernel
theorem dX12_expressionOf_28 : decode cX12_expressionOf 28 = .ok (.iaload, 1) := by decide +kernel
theorem dX12_expressionOf_29 : decode cX12_expressionOf 29 = .ok (.ireturn, 1) := by decide +kernel
theorem dX12_isA_0 : decode cX12_isA 0 = .ok (.aload_n 0, 1) := by decide +kernel
theorem dX12_isA_1 : decode cX12_isA 1 = .ok (.getfield 178, 3) := by decide +kernel
theorem dX12_isA_4 : decode cX12_isA 4 = .ok (.iload_n 1, 1) := by decide +kernel
theorem dX12_isA_5 : decode cX12_isA 5 = .ok (.iaload, 1) := by decide +kernel
theorem dX12_isA_6 : decode cX12_isA 6 = .ok (.istore_n 3, 1) := by decide +kernel
theorem dX12_isA_7 : decode cX12_isA 7 = .ok (.aload_n 0, 1) := by decide +kernel
theorem dX12_isA_8 : decode cX12_isA 8 = .ok (.getfield 52, 3) := by decide +kernel
theorem dX12_isA_11 : decode cX12_isA 11 = .ok (.bipush 10, 2) := by decide +kernel
theorem dX12_isA_13 : decode cX12_isA 13 = .ok (.aload_n 0, 1) := by decide +kernel
theorem dX12_isA_14 : decode cX12_isA 14 = .ok (.getfield 169, 3) := by decide +kernel
theorem dX12_isA_17 : decode cX12_isA 17 = .ok (.iload_n 3, 1) := by decide +kernel
theorem dX12_isA_18 : decode cX12_isA 18 = .ok (.bipush 10, 2) := by decide +kernel
theorem dX12_isA_20 : decode cX12_isA 20 = .ok (.idiv, 1) := by decide +kernel
theorem dX12_isA_21 : decode cX12_isA 21 = .ok (.iaload, 1) := by decide +kernel
theorem dX12_isA_22 : decode cX12_isA 22 = .ok (.imul, 1) := by decide +kernel
theorem dX12_isA_23 : decode cX12_isA 23 = .ok (.iload_n 3, 1) := by decide +kernel
theorem dX12_isA_24 : decode cX12_isA 24 = .ok (.bipush 10, 2) := by decide +kernel
theorem dX12_isA_26 : decode cX12_isA 26 = .ok (.irem, 1) := by decide +kernel
theorem dX12_isA_27 : decode cX12_isA 27 = .ok (.iadd, 1) := by decide +kernel
theorem dX12_isA_28 : decode cX12_isA 28 = .ok (.iaload, 1) := by decide +kernel
theorem dX12_isA_29 : decode cX12_isA 29 = .ok (.iload_n 2, 1) := by decide +kernel
theorem dX12_isA_30 : decode cX12_isA 30 = .ok (.iand, 1) := by decide +kernel
theorem dX12_isA_31 : decode cX12_isA 31 = .ok (.ifCond .eq 7, 3) := by decide +kernel
theorem dX12_isA_34 : decode cX12_isA 34 = .ok (.iconst 1, 1) := by decide +kernel
theorem dX12_isA_35 : decode cX12_isA 35 = .ok (.goto 4, 3) := by decide +kernel
theorem dX12_isA_38 : decode cX12_isA 38 = .ok (.iconst 0, 1) := by decide +kernel
theorem dX12_isA_39 : decode cX12_isA 39 = .ok (.ireturn, 1) := by decide +kernel
theorem dX12_targetOf_0 : decode cX12_targetOf 0 = .ok (.aload_n 0, 1) := by decide +kernel
theorem dX12_targetOf_1 : decode cX12_targetOf 1 = .ok (.getfield 175, 3) := by decide +kernel
theorem dX12_targetOf_4 : decode cX12_targetOf 4 = .ok (.aload_n 0, 1) := by decide +kernel
theorem dX12_targetOf_5 : decode cX12_targetOf 5 = .ok (.aload_n 0, 1) := by decide +kernel
theorem dX12_targetOf_6 : decode cX12_targetOf 6 = .ok (.getfield 178, 3) := by decide +kernel
theorem dX12_targetOf_9 : decode cX12_targetOf 9 = .ok (.iload_n 1, 1) := by decide +kernel
theorem dX12_targetOf_10 : decode cX12_targetOf 10 = .ok (.iaload, 1) := by decide +kernel
theorem dX12_targetOf_11 : decode cX12_targetOf 11 = .ok (.bipush 10, 2) := by decide +kernel
theorem dX12_targetOf_13 : decode cX12_targetOf 13 = .ok (.idiv, 1) := by decide +kernel
theorem dX12_targetOf_14 : decode cX12_targetOf 14 = .ok (.bipush 10, 2) := by decide +kernel
theorem dX12_targetOf_16 : decode cX12_targetOf 16 = .ok (.imul, 1) := by decide +kernel
theorem dX12_targetOf_17 : decode cX12_targetOf 17 = .ok (.iload_n 2, 1) := by decide +kernel
theorem dX12_targetOf_18 : decode cX12_targetOf 18 = .ok (.iadd, 1) := by decide +kernel
theorem dX12_targetOf_19 : decode cX12_targetOf 19 = .ok (.invokevirtual 500, 3) := by decide +kernel
theorem dX12_targetOf_22 : decode cX12_targetOf 22 = .ok (.iaload, 1) := by decide +kernel
theorem dX12_targetOf_23 : decode cX12_targetOf 23 = .ok (.ireturn, 1) := by decide +kernel
theorem dX12_areFilled_0 : decode cX12_areFilled 0 = .ok (.iconst 1, 1) := by decide +kernel
theorem dX12_areFilled_1 : decode cX12_areFilled 1 = .ok (.istore_n 1, 1) := by decide +kernel
theorem dX12_areFilled_2 : decode cX12_areFilled 2 = .ok (.iconst 0, 1) := by decide +kernel
theorem dX12_areFilled_3 : decode cX12_areFilled 3 = .ok (.istore_n 2, 1) := by decide +kernel
theorem dX12_areFilled_4 : decode cX12_areFilled 4 = .ok (.iload_n 2, 1) := by decide +kernel
theorem dX12_areFilled_5 : decode cX12_areFilled 5 = .ok (.aload_n 0, 1) := by decide +kernel
theorem dX12_areFilled_6 : decode cX12_areFilled 6 = .ok (.getfield 494, 3) := by decide +kernel
theorem dX12_areFilled_9 : decode cX12_areFilled 9 = .ok (.if_icmp .ge 64, 3) := by decide +kernel
theorem dX12_areFilled_12 : decode cX12_areFilled 12 = .ok (.aload_n 0, 1) := by decide +kernel
theorem dX12_areFilled_13 : decode cX12_areFilled 13 = .ok (.aload_n 0, 1) := by decide +kernel
theorem dX12_areFilled_14 : decode cX12_areFilled 14 = .ok (.iload_n 2, 1) := by decide +kernel
theorem dX12_areFilled_15 : decode cX12_areFilled 15 = .ok (.invokevirtual 515, 3) := by decide +kernel
theorem dX12_areFilled_18 : decode cX12_areFilled 18 = .ok (.invokevirtual 407, 3) := by decide +kernel
theorem dX12_areFilled_21 : decode cX12_areFilled 21 = .ok (.istore_n 3, 1) := by decide +kernel
theorem dX12_areFilled_22 : decode cX12_areFilled 22 = .ok (.iconst 0, 1) := by decide +kernel
theorem dX12_areFilled_23 : decode cX12_areFilled 23 = .ok (.istore 4, 2) := by decide +kernel
theorem dX12_areFilled_25 : decode cX12_areFilled 25 = .ok (.iload 4, 2) := by decide +kernel
theorem dX12_areFilled_27 : decode cX12_areFilled 27 = .ok (.bipush 10, 2) := by decide +kernel
theorem dX12_areFilled_29 : decode cX12_areFilled 29 = .ok (.if_icmp .ge 38, 3) := by decide +kernel
theorem dX12_areFilled_32 : decode cX12_areFilled 32 = .ok (.iload_n 1, 1) := by decide +kernel
theorem dX12_areFilled_33 : decode cX12_areFilled 33 = .ok (.ifCond .eq 26, 3) := by decide +kernel
theorem dX12_areFilled_36 : decode cX12_areFilled 36 = .ok (.iload_n 3, 1) := by decide +kernel
theorem dX12_areFilled_37 : decode cX12_areFilled 37 = .ok (.iload 4, 2) := by decide +kernel
theorem dX12_areFilled_39 : decode cX12_areFilled 39 = .ok (.invokestatic 367, 3) := by decide +kernel
theorem dX12_areFilled_42 : decode cX12_areFilled 42 = .ok (.ifCond .eq 13, 3) := by decide +kernel
theorem dX12_areFilled_45 : decode cX12_areFilled 45 = .ok (.aload_n 0, 1) := by decide +kernel
theorem dX12_areFilled_46 : decode cX12_areFilled 46 = .ok (.iload_n 2, 1) := by decide +kernel
theorem dX12_areFilled_47 : decode cX12_areFilled 47 = .ok (.iload 4, 2) := by decide +kernel
theorem dX12_areFilled_49 : decode cX12_areFilled 49 = .ok (.invokevirtual 518, 3) := by decide +kernel
theorem dX12_areFilled_52 : decode cX12_areFilled 52 = .ok (.ifCond .lt 7, 3) := by decide +kernel
theorem dX12_areFilled_55 : decode cX12_areFilled 55 = .ok (.iconst 1, 1) := by decide +kernel
theorem dX12_areFilled_56 : decode cX12_areFilled 56 = .ok (.goto 4, 3) := by decide +kernel
theorem dX12_areFilled_59 : decode cX12_areFilled 59 = .ok (.iconst 0, 1) := by decide +kernel
theorem dX12_areFilled_60 : decode cX12_areFilled 60 = .ok (.istore_n 1, 1) := by decide +kernel
theorem dX12_areFilled_61 : decode cX12_areFilled 61 = .ok (.iinc 4 1, 3) := by decide +kernel
theorem dX12_areFilled_64 : decode cX12_areFilled 64 = .ok (.goto (-39), 3) := by decide +kernel
theorem dX12_areFilled_67 : decode cX12_areFilled 67 = .ok (.iinc 2 1, 3) := by decide +kernel
theorem dX12_areFilled_70 : decode cX12_areFilled 70 = .ok (.goto (-66), 3) := by decide +kernel
theorem dX12_areFilled_73 : decode cX12_areFilled 73 = .ok (.iload_n 1, 1) := by decide +kernel
theorem dX12_areFilled_74 : decode cX12_areFilled 74 = .ok (.ireturn, 1) := by decide +kernel
theorem dX12_isRing_0 : decode cX12_isRing 0 = .ok (.iconst 0, 1) := by decide +kernel
theorem dX12_isRing_1 : decode cX12_isRing 1 = .ok (.istore_n 1, 1) := by decide +kernel
theorem dX12_isRing_2 : decode cX12_isRing 2 = .ok (.iconst 0, 1) := by decide +kernel
theorem dX12_isRing_3 : decode cX12_isRing 3 = .ok (.istore_n 2, 1) := by decide +kernel
theorem dX12_isRing_4 : decode cX12_isRing 4 = .ok (.iload_n 2, 1) := by decide +kernel
theorem dX12_isRing_5 : decode cX12_isRing 5 = .ok (.aload_n 0, 1) := by decide +kernel
theorem dX12_isRing_6 : decode cX12_isRing 6 = .ok (.getfield 494, 3) := by decide +kernel
theorem dX12_isRing_9 : decode cX12_isRing 9 = .ok (.if_icmp .ge 46, 3) := by decide +kernel
theorem dX12_isRing_12 : decode cX12_isRing 12 = .ok (.aload_n 0, 1) := by decide +kernel
theorem dX12_isRing_13 : decode cX12_isRing 13 = .ok (.getfield 202, 3) := by decide +kernel
theorem dX12_isRing_16 : decode cX12_isRing 16 = .ok (.iload_n 2, 1) := by decide +kernel
theorem dX12_isRing_17 : decode cX12_isRing 17 = .ok (.aload_n 0, 1) := by decide +kernel
theorem dX12_isRing_18 : decode cX12_isRing 18 = .ok (.iload_n 2, 1) := by decide +kernel
theorem dX12_isRing_19 : decode cX12_isRing 19 = .ok (.iconst 1, 1) := by decide +kernel
theorem dX12_isRing_20 : decode cX12_isRing 20 = .ok (.invokevirtual 521, 3) := by decide +kernel
theorem dX12_isRing_23 : decode cX12_isRing 23 = .ok (.ifCond .ne 7, 3) := by decide +kernel
theorem dX12_isRing_26 : decode cX12_isRing 26 = .ok (.iconst 1, 1) := by decide +kernel
theorem dX12_isRing_27 : decode cX12_isRing 27 = .ok (.goto 4, 3) := by decide +kernel
theorem dX12_isRing_30 : decode cX12_isRing 30 = .ok (.iconst 0, 1) := by decide +kernel
theorem dX12_isRing_31 : decode cX12_isRing 31 = .ok (.bastore, 1) := by decide +kernel
theorem dX12_isRing_32 : decode cX12_isRing 32 = .ok (.iload_n 1, 1) := by decide +kernel
theorem dX12_isRing_33 : decode cX12_isRing 33 = .ok (.aload_n 0, 1) := by decide +kernel
theorem dX12_isRing_34 : decode cX12_isRing 34 = .ok (.getfield 202, 3) := by decide +kernel
theorem dX12_isRing_37 : decode cX12_isRing 37 = .ok (.iload_n 2, 1) := by decide +kernel
theorem dX12_isRing_38 : decode cX12_isRing 38 = .ok (.baload, 1) := by decide +kernel
theorem dX12_isRing_39 : decode cX12_isRing 39 = .ok (.ifCond .eq 7, 3) := by decide +kernel
theorem dX12_isRing_42 : decode cX12_isRing 42 = .ok (.iconst 1, 1) := by decide +kernel
theorem dX12_isRing_43 : decode cX12_isRing 43 = .ok (.goto 4, 3) := by decide +kernel
theorem dX12_isRing_46 : decode cX12_isRing 46 = .ok (.iconst 0, 1) := by decide +kernel
theorem dX12_isRing_47 : decode cX12_isRing 47 = .ok (.iadd, 1) := by decide +kernel
theorem dX12_isRing_48 : decode cX12_isRing 48 = .ok (.istore_n 1, 1) := by decide +kernel
theorem dX12_isRing_49 : decode cX12_isRing 49 = .ok (.iinc 2 1, 3) := by decide +kernel
theorem dX12_isRing_52 : decode cX12_isRing 52 = .ok (.goto (-48), 3) := by decide +kernel
theorem dX12_isRing_55 : decode cX12_isRing 55 = .ok (.iconst 1, 1) := by decide +kernel
theorem dX12_isRing_56 : decode cX12_isRing 56 = .ok (.istore_n 2, 1) := by decide +kernel
theorem dX12_isRing_57 : decode cX12_isRing 57 = .ok (.iload_n 2, 1) := by decide +kernel
theorem dX12_isRing_58 : decode cX12_isRing 58 = .ok (.ifCond .eq 117, 3) := by decide +kernel
theorem dX12_isRing_61 : decode cX12_isRing 61 = .ok (.iconst 0, 1) := by decide +kernel
theorem dX12_isRing_62 : decode cX12_isRing 62 = .ok (.istore_n 2, 1) := by decide +kernel
theorem dX12_isRing_63 : decode cX12_isRing 63 = .ok (.iconst 0, 1) := by decide +kernel
theorem dX12_isRing_64 : decode cX12_isRing 64 = .ok (.istore_n 3, 1) := by decide +kernel
theorem dX12_isRing_65 : decode cX12_isRing 65 = .ok (.iload_n 3, 1) := by decide +kernel
theorem dX12_isRing_66 : decode cX12_isRing 66 = .ok (.aload_n 0, 1) := by decide +kernel
theorem dX12_isRing_67 : decode cX12_isRing 67 = .ok (.getfield 494, 3) := by decide +kernel
theorem dX12_isRing_70 : decode cX12_isRing 70 = .ok (.if_icmp .ge 102, 3) := by decide +kernel
theorem dX12_isRing_73 : decode cX12_isRing 73 = .ok (.aload_n 0, 1) := by decide +kernel
theorem dX12_isRing_74 : decode cX12_isRing 74 = .ok (.getfield 202, 3) := by decide +kernel
theorem dX12_isRing_77 : decode cX12_isRing 77 = .ok (.iload_n 3, 1) := by decide +kernel
theorem dX12_isRing_78 : decode cX12_isRing 78 = .ok (.baload, 1) := by decide +kernel
theorem dX12_isRing_79 : decode cX12_isRing 79 = .ok (.ifCond .eq 87, 3) := by decide +kernel
theorem dX12_isRing_82 : decode cX12_isRing 82 = .ok (.aload_n 0, 1) := by decide +kernel
theorem dX12_isRing_83 : decode cX12_isRing 83 = .ok (.aload_n 0, 1) := by decide +kernel
theorem dX12_isRing_84 : decode cX12_isRing 84 = .ok (.iload_n 3, 1) := by decide +kernel
theorem dX12_isRing_85 : decode cX12_isRing 85 = .ok (.invokevirtual 515, 3) := by decide +kernel
theorem dX12_isRing_88 : decode cX12_isRing 88 = .ok (.invokevirtual 407, 3) := by decide +kernel
theorem dX12_isRing_91 : decode cX12_isRing 91 = .ok (.istore 4, 2) := by decide +kernel
theorem dX12_isRing_93 : decode cX12_isRing 93 = .ok (.iconst 0, 1) := by decide +kernel
theorem dX12_isRing_94 : decode cX12_isRing 94 = .ok (.istore 5, 2) := by decide +kernel
theorem dX12_isRing_96 : decode cX12_isRing 96 = .ok (.iconst 0, 1) := by decide +kernel
theorem dX12_isRing_97 : decode cX12_isRing 97 = .ok (.istore 6, 2) := by decide +kernel
theorem dX12_isRing_99 : decode cX12_isRing 99 = .ok (.iload 6, 2) := by decide +kernel
theorem dX12_isRing_101 : decode cX12_isRing 101 = .ok (.bipush 10, 2) := by decide +kernel
theorem dX12_isRing_103 : decode cX12_isRing 103 = .ok (.if_icmp .ge 46, 3) := by decide +kernel
theorem dX12_isRing_106 : decode cX12_isRing 106 = .ok (.iload 5, 2) := by decide +kernel
theorem dX12_isRing_108 : decode cX12_isRing 108 = .ok (.ifCond .ne 28, 3) := by decide +kernel
theorem dX12_isRing_111 : decode cX12_isRing 111 = .ok (.iload 4, 2) := by decide +kernel
theorem dX12_isRing_113 : decode cX12_isRing 113 = .ok (.iload 6, 2) := by decide +kernel
theorem dX12_isRing_115 : decode cX12_isRing 115 = .ok (.invokestatic 367, 3) := by decide +kernel
theorem dX12_isRing_118 : decode cX12_isRing 118 = .ok (.ifCond .eq 22, 3) := by decide +kernel
theorem dX12_isRing_121 : decode cX12_isRing 121 = .ok (.aload_n 0, 1) := by decide +kernel
theorem dX12_isRing_122 : decode cX12_isRing 122 = .ok (.getfield 202, 3) := by decide +kernel
theorem dX12_isRing_125 : decode cX12_isRing 125 = .ok (.aload_n 0, 1) := by decide +kernel
theorem dX12_isRing_126 : decode cX12_isRing 126 = .ok (.iload_n 3, 1) := by decide +kernel
theorem dX12_isRing_127 : decode cX12_isRing 127 = .ok (.iload 6, 2) := by decide +kernel
theorem dX12_isRing_129 : decode cX12_isRing 129 = .ok (.invokevirtual 518, 3) := by decide +kernel
theorem dX12_isRing_132 : decode cX12_isRing 132 = .ok (.baload, 1) := by decide +kernel
theorem dX12_isRing_133 : decode cX12_isRing 133 = .ok (.ifCond .eq 7, 3) := by decide +kernel
theorem dX12_isRing_136 : decode cX12_isRing 136 = .ok (.iconst 1, 1) := by decide +kernel
theorem dX12_isRing_137 : decode cX12_isRing 137 = .ok (.goto 4, 3) := by decide +kernel
theorem dX12_isRing_140 : decode cX12_isRing 140 = .ok (.iconst 0, 1) := by decide +kernel
theorem dX12_isRing_141 : decode cX12_isRing 141 = .ok (.istore 5, 2) := by decide +kernel
theorem dX12_isRing_143 : decode cX12_isRing 143 = .ok (.iinc 6 1, 3) := by decide +kernel
theorem dX12_isRing_146 : decode cX12_isRing 146 = .ok (.goto (-47), 3) := by decide +kernel
theorem dX12_isRing_149 : decode cX12_isRing 149 = .ok (.iload 5, 2) := by decide +kernel
theorem dX12_isRing_151 : decode cX12_isRing 151 = .ok (.ifCond .ne 15, 3) := by decide +kernel
theorem dX12_isRing_154 : decode cX12_isRing 154 = .ok (.aload_n 0, 1) := by decide +kernel
theorem dX12_isRing_155 : decode cX12_isRing 155 = .ok (.getfield 202, 3) := by decide +kernel
theorem dX12_isRing_158 : decode cX12_isRing 158 = .ok (.iload_n 3, 1) := by decide +kernel
theorem dX12_isRing_159 : decode cX12_isRing 159 = .ok (.iconst 0, 1) := by decide +kernel
theorem dX12_isRing_160 : decode cX12_isRing 160 = .ok (.bastore, 1) := by decide +kernel
theorem dX12_isRing_161 : decode cX12_isRing 161 = .ok (.iinc 1 (-1), 3) := by decide +kernel
theorem dX12_isRing_164 : decode cX12_isRing 164 = .ok (.iconst 1, 1) := by decide +kernel
theorem dX12_isRing_165 : decode cX12_isRing 165 = .ok (.istore_n 2, 1) := by decide +kernel
theorem dX12_isRing_166 : decode cX12_isRing 166 = .ok (.iinc 3 1, 3) := by decide +kernel
theorem dX12_isRing_169 : decode cX12_isRing 169 = .ok (.goto (-104), 3) := by decide +kernel
theorem dX12_isRing_172 : decode cX12_isRing 172 = .ok (.goto (-115), 3) := by decide +kernel
theorem dX12_isRing_175 : decode cX12_isRing 175 = .ok (.iload_n 1, 1) := by decide +kernel
theorem dX12_isRing_176 : decode cX12_isRing 176 = .ok (.ifCond .le 7, 3) := by decide +kernel
theorem dX12_isRing_179 : decode cX12_isRing 179 = .ok (.iconst 1, 1) := by decide +kernel
theorem dX12_isRing_180 : decode cX12_isRing 180 = .ok (.goto 4, 3) := by decide +kernel
theorem dX12_isRing_183 : decode cX12_isRing 183 = .ok (.iconst 0, 1) := by decide +kernel
theorem dX12_isRing_184 : decode cX12_isRing 184 = .ok (.ireturn, 1) := by decide +kernel
theorem dX12_shownBy_0 : decode cX12_shownBy 0 = .ok (.aload_n 0, 1) := by decide +kernel
theorem dX12_shownBy_1 : decode cX12_shownBy 1 = .ok (.iload_n 1, 1) := by decide +kernel
theorem dX12_shownBy_2 : decode cX12_shownBy 2 = .ok (.iload_n 2, 1) := by decide +kernel
theorem dX12_shownBy_3 : decode cX12_shownBy 3 = .ok (.invokevirtual 388, 3) := by decide +kernel
theorem dX12_shownBy_6 : decode cX12_shownBy 6 = .ok (.iconst (-1), 1) := by decide +kernel
theorem dX12_shownBy_7 : decode cX12_shownBy 7 = .ok (.if_icmp .eq 21, 3) := by decide +kernel
theorem dX12_shownBy_10 : decode cX12_shownBy 10 = .ok (.aload_n 0, 1) := by decide +kernel
theorem dX12_shownBy_11 : decode cX12_shownBy 11 = .ok (.iload_n 1, 1) := by decide +kernel
theorem dX12_shownBy_12 : decode cX12_shownBy 12 = .ok (.iload_n 2, 1) := by decide +kernel
theorem dX12_shownBy_13 : decode cX12_shownBy 13 = .ok (.invokevirtual 398, 3) := by decide +kernel
theorem dX12_shownBy_16 : decode cX12_shownBy 16 = .ok (.ifCond .ne 12, 3) := by decide +kernel
theorem dX12_shownBy_19 : decode cX12_shownBy 19 = .ok (.aload_n 0, 1) := by decide +kernel
theorem dX12_shownBy_20 : decode cX12_shownBy 20 = .ok (.iload_n 1, 1) := by decide +kernel
theorem dX12_shownBy_21 : decode cX12_shownBy 21 = .ok (.iload_n 2, 1) := by decide +kernel
theorem dX12_shownBy_22 : decode cX12_shownBy 22 = .ok (.invokevirtual 410, 3) := by decide +kernel
theorem dX12_shownBy_25 : decode cX12_shownBy 25 = .ok (.ifCond .eq 5, 3) := by decide +kernel
theorem dX12_shownBy_28 : decode cX12_shownBy 28 = .ok (.iconst (-1), 1) := by decide +kernel
theorem dX12_shownBy_29 : decode cX12_shownBy 29 = .ok (.ireturn, 1) := by decide +kernel
theorem dX12_shownBy_30 : decode cX12_shownBy 30 = .ok (.aload_n 0, 1) := by decide +kernel
theorem dX12_shownBy_31 : decode cX12_shownBy 31 = .ok (.getfield 175, 3) := by decide +kernel
theorem dX12_shownBy_34 : decode cX12_shownBy 34 = .ok (.aload_n 0, 1) := by decide +kernel
theorem dX12_shownBy_35 : decode cX12_shownBy 35 = .ok (.aload_n 0, 1) := by decide +kernel
theorem dX12_shownBy_36 : decode cX12_shownBy 36 = .ok (.getfield 181, 3) := by decide +kernel
theorem dX12_shownBy_39 : decode cX12_shownBy 39 = .ok (.iload_n 2, 1) := by decide +kernel
theorem dX12_shownBy_40 : decode cX12_shownBy 40 = .ok (.iaload, 1) := by decide +kernel
theorem dX12_shownBy_41 : decode cX12_shownBy 41 = .ok (.invokevirtual 500, 3) := by decide +kernel
theorem dX12_shownBy_44 : decode cX12_shownBy 44 = .ok (.iaload, 1) := by decide +kernel
theorem dX12_shownBy_45 : decode cX12_shownBy 45 = .ok (.istore_n 3, 1) := by decide +kernel
theorem dX12_shownBy_46 : decode cX12_shownBy 46 = .ok (.iload_n 3, 1) := by decide +kernel
theorem dX12_shownBy_47 : decode cX12_shownBy 47 = .ok (.ifCond .ge 7, 3) := by decide +kernel
theorem dX12_shownBy_50 : decode cX12_shownBy 50 = .ok (.iconst (-1), 1) := by decide +kernel
theorem dX12_shownBy_51 : decode cX12_shownBy 51 = .ok (.goto 4, 3) := by decide +kernel
theorem dX12_shownBy_54 : decode cX12_shownBy 54 = .ok (.iload_n 3, 1) := by decide +kernel
theorem dX12_shownBy_55 : decode cX12_shownBy 55 = .ok (.ireturn, 1) := by decide +kernel
theorem dX12_reaches_0 : decode cX12_reaches 0 = .ok (.iconst 0, 1) := by decide +kernel
theorem dX12_reaches_1 : decode cX12_reaches 1 = .ok (.istore_n 2, 1) := by decide +kernel
theorem dX12_reaches_2 : decode cX12_reaches 2 = .ok (.iload_n 2, 1) := by decide +kernel
theorem dX12_reaches_3 : decode cX12_reaches 3 = .ok (.aload_n 0, 1) := by decide +kernel
theorem dX12_reaches_4 : decode cX12_reaches 4 = .ok (.getfield 494, 3) := by decide +kernel
theorem dX12_reaches_7 : decode cX12_reaches 7 = .ok (.if_icmp .ge 21, 3) := by decide +kernel
theorem dX12_reaches_10 : decode cX12_reaches 10 = .ok (.aload_n 0, 1) := by decide +kernel
theorem dX12_reaches_11 : decode cX12_reaches 11 = .ok (.getfield 202, 3) := by decide +kernel
theorem dX12_reaches_14 : decode cX12_reaches 14 = .ok (.iload_n 2, 1) := by decide +kernel
theorem dX12_reaches_15 : decode cX12_reaches 15 = .ok (.aload_n 0, 1) := by decide +kernel
theorem dX12_reaches_16 : decode cX12_reaches 16 = .ok (.iload_n 2, 1) := by decide +kernel
theorem dX12_reaches_17 : decode cX12_reaches 17 = .ok (.iconst 2, 1) := by decide +kernel
theorem dX12_reaches_18 : decode cX12_reaches 18 = .ok (.invokevirtual 521, 3) := by decide +kernel
theorem dX12_reaches_21 : decode cX12_reaches 21 = .ok (.bastore, 1) := by decide +kernel
theorem dX12_reaches_22 : decode cX12_reaches 22 = .ok (.iinc 2 1, 3) := by decide +kernel
theorem dX12_reaches_25 : decode cX12_reaches 25 = .ok (.goto (-23), 3) := by decide +kernel
theorem dX12_reaches_28 : decode cX12_reaches 28 = .ok (.iconst 0, 1) := by decide +kernel
theorem dX12_reaches_29 : decode cX12_reaches 29 = .ok (.istore_n 2, 1) := by decide +kernel
theorem dX12_reaches_30 : decode cX12_reaches 30 = .ok (.iload_n 2, 1) := by decide +kernel
theorem dX12_reaches_31 : decode cX12_reaches 31 = .ok (.bipush 10, 2) := by decide +kernel
theorem dX12_reaches_33 : decode cX12_reaches 33 = .ok (.if_icmp .ge 28, 3) := by decide +kernel
theorem dX12_reaches_36 : decode cX12_reaches 36 = .ok (.aload_n 0, 1) := by decide +kernel
theorem dX12_reaches_37 : decode cX12_reaches 37 = .ok (.iload_n 1, 1) := by decide +kernel
theorem dX12_reaches_38 : decode cX12_reaches 38 = .ok (.iload_n 2, 1) := by decide +kernel
theorem dX12_reaches_39 : decode cX12_reaches 39 = .ok (.invokevirtual 524, 3) := by decide +kernel
theorem dX12_reaches_42 : decode cX12_reaches 42 = .ok (.istore_n 3, 1) := by decide +kernel
theorem dX12_reaches_43 : decode cX12_reaches 43 = .ok (.iload_n 3, 1) := by decide +kernel
theorem dX12_reaches_44 : decode cX12_reaches 44 = .ok (.iconst (-1), 1) := by decide +kernel
theorem dX12_reaches_45 : decode cX12_reaches 45 = .ok (.if_icmp .eq 10, 3) := by decide +kernel
theorem dX12_reaches_48 : decode cX12_reaches 48 = .ok (.aload_n 0, 1) := by decide +kernel
theorem dX12_reaches_49 : decode cX12_reaches 49 = .ok (.getfield 202, 3) := by decide +kernel
theorem dX12_reaches_52 : decode cX12_reaches 52 = .ok (.iload_n 3, 1) := by decide +kernel
theorem dX12_reaches_53 : decode cX12_reaches 53 = .ok (.iconst 1, 1) := by decide +kernel
theorem dX12_reaches_54 : decode cX12_reaches 54 = .ok (.bastore, 1) := by decide +kernel
theorem dX12_reaches_55 : decode cX12_reaches 55 = .ok (.iinc 2 1, 3) := by decide +kernel
theorem dX12_reaches_58 : decode cX12_reaches 58 = .ok (.goto (-28), 3) := by decide +kernel
theorem dX12_reaches_61 : decode cX12_reaches 61 = .ok (.iconst 1, 1) := by decide +kernel
theorem dX12_reaches_62 : decode cX12_reaches 62 = .ok (.istore_n 2, 1) := by decide +kernel
theorem dX12_reaches_63 : decode cX12_reaches 63 = .ok (.iload_n 2, 1) := by decide +kernel
theorem dX12_reaches_64 : decode cX12_reaches 64 = .ok (.ifCond .eq 104, 3) := by decide +kernel
theorem dX12_reaches_67 : decode cX12_reaches 67 = .ok (.iconst 0, 1) := by decide +kernel
theorem dX12_reaches_68 : decode cX12_reaches 68 = .ok (.istore_n 2, 1) := by decide +kernel
theorem dX12_reaches_69 : decode cX12_reaches 69 = .ok (.iconst 0, 1) := by decide +kernel
theorem dX12_reaches_70 : decode cX12_reaches 70 = .ok (.istore_n 3, 1) := by decide +kernel
theorem dX12_reaches_71 : decode cX12_reaches 71 = .ok (.iload_n 3, 1) := by decide +kernel
theorem dX12_reaches_72 : decode cX12_reaches 72 = .ok (.aload_n 0, 1) := by decide +kernel
theorem dX12_reaches_73 : decode cX12_reaches 73 = .ok (.getfield 494, 3) := by decide +kernel
theorem dX12_reaches_76 : decode cX12_reaches 76 = .ok (.if_icmp .ge 89, 3) := by decide +kernel
theorem dX12_reaches_79 : decode cX12_reaches 79 = .ok (.aload_n 0, 1) := by decide +kernel
theorem dX12_reaches_80 : decode cX12_reaches 80 = .ok (.getfield 202, 3) := by decide +kernel
theorem dX12_reaches_83 : decode cX12_reaches 83 = .ok (.iload_n 3, 1) := by decide +kernel
theorem dX12_reaches_84 : decode cX12_reaches 84 = .ok (.baload, 1) := by decide +kernel
theorem dX12_reaches_85 : decode cX12_reaches 85 = .ok (.ifCond .eq 15, 3) := by decide +kernel
theorem dX12_reaches_88 : decode cX12_reaches 88 = .ok (.aload_n 0, 1) := by decide +kernel
theorem dX12_reaches_89 : decode cX12_reaches 89 = .ok (.aload_n 0, 1) := by decide +kernel
theorem dX12_reaches_90 : decode cX12_reaches 90 = .ok (.iload_n 3, 1) := by decide +kernel
theorem dX12_reaches_91 : decode cX12_reaches 91 = .ok (.invokevirtual 515, 3) := by decide +kernel
theorem dX12_reaches_94 : decode cX12_reaches 94 = .ok (.invokevirtual 407, 3) := by decide +kernel
theorem dX12_reaches_97 : decode cX12_reaches 97 = .ok (.goto 4, 3) := by decide +kernel
theorem dX12_reaches_100 : decode cX12_reaches 100 = .ok (.iconst 0, 1) := by decide +kernel
theorem dX12_reaches_101 : decode cX12_reaches 101 = .ok (.istore 4, 2) := by decide +kernel
theorem dX12_reaches_103 : decode cX12_reaches 103 = .ok (.iconst 0, 1) := by decide +kernel
theorem dX12_reaches_104 : decode cX12_reaches 104 = .ok (.istore 5, 2) := by decide +kernel
theorem dX12_reaches_106 : decode cX12_reaches 106 = .ok (.iload 5, 2) := by decide +kernel
theorem dX12_reaches_108 : decode cX12_reaches 108 = .ok (.bipush 10, 2) := by decide +kernel
theorem dX12_reaches_110 : decode cX12_reaches 110 = .ok (.if_icmp .ge 49, 3) := by decide +kernel
theorem dX12_reaches_113 : decode cX12_reaches 113 = .ok (.iload 4, 2) := by decide +kernel
theorem dX12_reaches_115 : decode cX12_reaches 115 = .ok (.iload 5, 2) := by decide +kernel
theorem dX12_reaches_117 : decode cX12_reaches 117 = .ok (.invokestatic 367, 3) := by decide +kernel
theorem dX12_reaches_120 : decode cX12_reaches 120 = .ok (.ifCond .eq 33, 3) := by decide +kernel
theorem dX12_reaches_123 : decode cX12_reaches 123 = .ok (.aload_n 0, 1) := by decide +kernel
theorem dX12_reaches_124 : decode cX12_reaches 124 = .ok (.getfield 202, 3) := by decide +kernel
theorem dX12_reaches_127 : decode cX12_reaches 127 = .ok (.aload_n 0, 1) := by decide +kernel
theorem dX12_reaches_128 : decode cX12_reaches 128 = .ok (.iload_n 3, 1) := by decide +kernel
theorem dX12_reaches_129 : decode cX12_reaches 129 = .ok (.iload 5, 2) := by decide +kernel
theorem dX12_reaches_131 : decode cX12_reaches 131 = .ok (.invokevirtual 518, 3) := by decide +kernel
theorem dX12_reaches_134 : decode cX12_reaches 134 = .ok (.baload, 1) := by decide +kernel
theorem dX12_reaches_135 : decode cX12_reaches 135 = .ok (.ifCond .ne 18, 3) := by decide +kernel
theorem dX12_reaches_138 : decode cX12_reaches 138 = .ok (.aload_n 0, 1) := by decide +kernel
theorem dX12_reaches_139 : decode cX12_reaches 139 = .ok (.getfield 202, 3) := by decide +kernel
theorem dX12_reaches_142 : decode cX12_reaches 142 = .ok (.aload_n 0, 1) := by decide +kernel
theorem dX12_reaches_143 : decode cX12_reaches 143 = .ok (.iload_n 3, 1) := by decide +kernel
theorem dX12_reaches_144 : decode cX12_reaches 144 = .ok (.iload 5, 2) := by decide +kernel
theorem dX12_reaches_146 : decode cX12_reaches 146 = .ok (.invokevirtual 518, 3) := by decide +kernel
theorem dX12_reaches_149 : decode cX12_reaches 149 = .ok (.iconst 1, 1) := by decide +kernel
theorem dX12_reaches_150 : decode cX12_reaches 150 = .ok (.bastore, 1) := by decide +kernel
theorem dX12_reaches_151 : decode cX12_reaches 151 = .ok (.iconst 1, 1) := by decide +kernel
theorem dX12_reaches_152 : decode cX12_reaches 152 = .ok (.istore_n 2, 1) := by decide +kernel
theorem dX12_reaches_153 : decode cX12_reaches 153 = .ok (.iinc 5 1, 3) := by decide +kernel
theorem dX12_reaches_156 : decode cX12_reaches 156 = .ok (.goto (-50), 3) := by decide +kernel
theorem dX12_reaches_159 : decode cX12_reaches 159 = .ok (.iinc 3 1, 3) := by decide +kernel
theorem dX12_reaches_162 : decode cX12_reaches 162 = .ok (.goto (-91), 3) := by decide +kernel
theorem dX12_reaches_165 : decode cX12_reaches 165 = .ok (.goto (-102), 3) := by decide +kernel
theorem dX12_reaches_168 : decode cX12_reaches 168 = .ok (.return_, 1) := by decide +kernel
theorem dX12_value_0 : decode cX12_value 0 = .ok (.aload_n 0, 1) := by decide +kernel
theorem dX12_value_1 : decode cX12_value 1 = .ok (.getfield 205, 3) := by decide +kernel
theorem dX12_value_4 : decode cX12_value 4 = .ok (.aload_n 0, 1) := by decide +kernel
theorem dX12_value_5 : decode cX12_value 5 = .ok (.getfield 527, 3) := by decide +kernel
theorem dX12_value_8 : decode cX12_value 8 = .ok (.iload_n 1, 1) := by decide +kernel
theorem dX12_value_9 : decode cX12_value 9 = .ok (.iastore, 1) := by decide +kernel
theorem dX12_value_10 : decode cX12_value 10 = .ok (.aload_n 0, 1) := by decide +kernel
theorem dX12_value_11 : decode cX12_value 11 = .ok (.getfield 208, 3) := by decide +kernel
theorem dX12_value_14 : decode cX12_value 14 = .ok (.aload_n 0, 1) := by decide +kernel
theorem dX12_value_15 : decode cX12_value 15 = .ok (.getfield 527, 3) := by decide +kernel
theorem dX12_value_18 : decode cX12_value 18 = .ok (.iload_n 2, 1) := by decide +kernel
theorem dX12_value_19 : decode cX12_value 19 = .ok (.iastore, 1) := by decide +kernel
theorem dX12_value_20 : decode cX12_value 20 = .ok (.aload_n 0, 1) := by decide +kernel
theorem dX12_value_21 : decode cX12_value 21 = .ok (.getfield 211, 3) := by decide +kernel
theorem dX12_value_24 : decode cX12_value 24 = .ok (.aload_n 0, 1) := by decide +kernel
theorem dX12_value_25 : decode cX12_value 25 = .ok (.getfield 527, 3) := by decide +kernel
theorem dX12_value_28 : decode cX12_value 28 = .ok (.iload_n 3, 1) := by decide +kernel
theorem dX12_value_29 : decode cX12_value 29 = .ok (.iastore, 1) := by decide +kernel
theorem dX12_value_30 : decode cX12_value 30 = .ok (.aload_n 0, 1) := by decide +kernel
theorem dX12_value_31 : decode cX12_value 31 = .ok (.getfield 214, 3) := by decide +kernel
theorem dX12_value_34 : decode cX12_value 34 = .ok (.aload_n 0, 1) := by decide +kernel
theorem dX12_value_35 : decode cX12_value 35 = .ok (.getfield 527, 3) := by decide +kernel
theorem dX12_value_38 : decode cX12_value 38 = .ok (.iload_n 1, 1) := by decide +kernel
theorem dX12_value_39 : decode cX12_value 39 = .ok (.iconst (-1), 1) := by decide +kernel
theorem dX12_value_40 : decode cX12_value 40 = .ok (.if_icmp .ne 7, 3) := by decide +kernel
theorem dX12_value_43 : decode cX12_value 43 = .ok (.lconst 1, 1) := by decide +kernel
theorem dX12_value_44 : decode cX12_value 44 = .ok (.goto 16, 3) := by decide +kernel
theorem dX12_value_47 : decode cX12_value 47 = .ok (.aload_n 0, 1) := by decide +kernel
theorem dX12_value_48 : decode cX12_value 48 = .ok (.getfield 214, 3) := by decide +kernel
theorem dX12_value_51 : decode cX12_value 51 = .ok (.iload_n 1, 1) := by decide +kernel
theorem dX12_value_52 : decode cX12_value 52 = .ok (.laload, 1) := by decide +kernel
theorem dX12_value_53 : decode cX12_value 53 = .ok (.aload_n 0, 1) := by decide +kernel
theorem dX12_value_54 : decode cX12_value 54 = .ok (.getfield 214, 3) := by decide +kernel
theorem dX12_value_57 : decode cX12_value 57 = .ok (.iload_n 2, 1) := by decide +kernel
theorem dX12_value_58 : decode cX12_value 58 = .ok (.laload, 1) := by decide +kernel
theorem dX12_value_59 : decode cX12_value 59 = .ok (.ladd, 1) := by decide +kernel
theorem dX12_value_60 : decode cX12_value 60 = .ok (.lastore, 1) := by decide +kernel
theorem dX12_value_61 : decode cX12_value 61 = .ok (.aload_n 0, 1) := by decide +kernel
theorem dX12_value_62 : decode cX12_value 62 = .ok (.dup, 1) := by decide +kernel
theorem dX12_value_63 : decode cX12_value 63 = .ok (.getfield 527, 3) := by decide +kernel
theorem dX12_value_66 : decode cX12_value 66 = .ok (.iconst 1, 1) := by decide +kernel
theorem dX12_value_67 : decode cX12_value 67 = .ok (.iadd, 1) := by decide +kernel
theorem dX12_value_68 : decode cX12_value 68 = .ok (.putfield 527, 3) := by decide +kernel
theorem dX12_value_71 : decode cX12_value 71 = .ok (.aload_n 0, 1) := by decide +kernel
theorem dX12_value_72 : decode cX12_value 72 = .ok (.getfield 527, 3) := by decide +kernel
theorem dX12_value_75 : decode cX12_value 75 = .ok (.iconst 1, 1) := by decide +kernel
theorem dX12_value_76 : decode cX12_value 76 = .ok (.isub, 1) := by decide +kernel
theorem dX12_value_77 : decode cX12_value 77 = .ok (.ireturn, 1) := by decide +kernel
theorem dX12_act_0 : decode cX12_act 0 = .ok (.aload_n 0, 1) := by decide +kernel
theorem dX12_act_1 : decode cX12_act 1 = .ok (.getfield 218, 3) := by decide +kernel
theorem dX12_act_4 : decode cX12_act 4 = .ok (.aload_n 0, 1) := by decide +kernel
theorem dX12_act_5 : decode cX12_act 5 = .ok (.getfield 530, 3) := by decide +kernel
theorem dX12_act_8 : decode cX12_act 8 = .ok (.iload_n 1, 1) := by decide +kernel
theorem dX12_act_9 : decode cX12_act 9 = .ok (.iastore, 1) := by decide +kernel
theorem dX12_act_10 : decode cX12_act 10 = .ok (.aload_n 0, 1) := by decide +kernel
theorem dX12_act_11 : decode cX12_act 11 = .ok (.getfield 221, 3) := by decide +kernel
theorem dX12_act_14 : decode cX12_act 14 = .ok (.aload_n 0, 1) := by decide +kernel
theorem dX12_act_15 : decode cX12_act 15 = .ok (.getfield 530, 3) := by decide +kernel
theorem dX12_act_18 : decode cX12_act 18 = .ok (.iload_n 2, 1) := by decide +kernel
theorem dX12_act_19 : decode cX12_act 19 = .ok (.iastore, 1) := by decide +kernel
theorem dX12_act_20 : decode cX12_act 20 = .ok (.aload_n 0, 1) := by decide +kernel
theorem dX12_act_21 : decode cX12_act 21 = .ok (.getfield 224, 3) := by decide +kernel
theorem dX12_act_24 : decode cX12_act 24 = .ok (.aload_n 0, 1) := by decide +kernel
theorem dX12_act_25 : decode cX12_act 25 = .ok (.getfield 530, 3) := by decide +kernel
theorem dX12_act_28 : decode cX12_act 28 = .ok (.iload_n 3, 1) := by decide +kernel
theorem dX12_act_29 : decode cX12_act 29 = .ok (.iastore, 1) := by decide +kernel
theorem dX12_act_30 : decode cX12_act 30 = .ok (.aload_n 0, 1) := by decide +kernel
theorem dX12_act_31 : decode cX12_act 31 = .ok (.dup, 1) := by decide +kernel
theorem dX12_act_32 : decode cX12_act 32 = .ok (.getfield 530, 3) := by decide +kernel
theorem dX12_act_35 : decode cX12_act 35 = .ok (.iconst 1, 1) := by decide +kernel
theorem dX12_act_36 : decode cX12_act 36 = .ok (.iadd, 1) := by decide +kernel
theorem dX12_act_37 : decode cX12_act 37 = .ok (.putfield 530, 3) := by decide +kernel
theorem dX12_act_40 : decode cX12_act 40 = .ok (.return_, 1) := by decide +kernel
theorem dX12_gives_0 : decode cX12_gives 0 = .ok (.aload_n 0, 1) := by decide +kernel
theorem dX12_gives_1 : decode cX12_gives 1 = .ok (.getfield 227, 3) := by decide +kernel
theorem dX12_gives_4 : decode cX12_gives 4 = .ok (.aload_n 0, 1) := by decide +kernel
theorem dX12_gives_5 : decode cX12_gives 5 = .ok (.getfield 533, 3) := by decide +kernel
theorem dX12_gives_8 : decode cX12_gives 8 = .ok (.iload_n 1, 1) := by decide +kernel
theorem dX12_gives_9 : decode cX12_gives 9 = .ok (.iastore, 1) := by decide +kernel
theorem dX12_gives_10 : decode cX12_gives 10 = .ok (.aload_n 0, 1) := by decide +kernel
theorem dX12_gives_11 : decode cX12_gives 11 = .ok (.dup, 1) := by decide +kernel
theorem dX12_gives_12 : decode cX12_gives 12 = .ok (.getfield 533, 3) := by decide +kernel
theorem dX12_gives_15 : decode cX12_gives 15 = .ok (.iconst 1, 1) := by decide +kernel
theorem dX12_gives_16 : decode cX12_gives 16 = .ok (.iadd, 1) := by decide +kernel
theorem dX12_gives_17 : decode cX12_gives 17 = .ok (.putfield 533, 3) := by decide +kernel
theorem dX12_gives_20 : decode cX12_gives 20 = .ok (.return_, 1) := by decide +kernel
theorem dX12_beginsCell_0 : decode cX12_beginsCell 0 = .ok (.aload_n 0, 1) := by decide +kernel
theorem dX12_beginsCell_1 : decode cX12_beginsCell 1 = .ok (.getfield 196, 3) := by decide +kernel
theorem dX12_beginsCell_4 : decode cX12_beginsCell 4 = .ok (.iload_n 1, 1) := by decide +kernel
theorem dX12_beginsCell_5 : decode cX12_beginsCell 5 = .ok (.iconst 1, 1) := by decide +kernel
theorem dX12_beginsCell_6 : decode cX12_beginsCell 6 = .ok (.iastore, 1) := by decide +kernel
theorem dX12_beginsCell_7 : decode cX12_beginsCell 7 = .ok (.aload_n 0, 1) := by decide +kernel
theorem dX12_beginsCell_8 : decode cX12_beginsCell 8 = .ok (.iload_n 1, 1) := by decide +kernel
theorem dX12_beginsCell_9 : decode cX12_beginsCell 9 = .ok (.iconst 2, 1) := by decide +kernel
theorem dX12_beginsCell_10 : decode cX12_beginsCell 10 = .ok (.iload_n 1, 1) := by decide +kernel
theorem dX12_beginsCell_11 : decode cX12_beginsCell 11 = .ok (.invokevirtual 536, 3) := by decide +kernel
theorem dX12_beginsCell_14 : decode cX12_beginsCell 14 = .ok (.aload_n 0, 1) := by decide +kernel
theorem dX12_beginsCell_15 : decode cX12_beginsCell 15 = .ok (.aload_n 0, 1) := by decide +kernel
theorem dX12_beginsCell_16 : decode cX12_beginsCell 16 = .ok (.iload_n 1, 1) := by decide +kernel
