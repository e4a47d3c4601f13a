theorem dX12_version_41 : decode cX12_version 41 = .ok (.istore_n 3, 1) := by decide +kernel
theorem dX12_version_42 : decode cX12_version 42 = .ok (.iconst 0, 1) := by decide +kernel
theorem dX12_version_43 : decode cX12_version 43 = .ok (.istore 4, 2) := by decide +kernel
theorem dX12_version_45 : decode cX12_version 45 = .ok (.iload 4, 2) := by decide +kernel
theorem dX12_version_47 : decode cX12_version 47 = .ok (.bipush 6, 2) := by decide +kernel
theorem dX12_version_49 : decode cX12_version 49 = .ok (.if_icmp .ge 35, 3) := by decide +kernel
theorem dX12_version_52 : decode cX12_version 52 = .ok (.aload_n 0, 1) := by decide +kernel
theorem dX12_version_53 : decode cX12_version 53 = .ok (.getfield 43, 3) := by decide +kernel
theorem dX12_version_56 : decode cX12_version 56 = .ok (.bipush 6, 2) := by decide +kernel
theorem dX12_version_58 : decode cX12_version 58 = .ok (.iload_n 3, 1) := by decide +kernel
theorem dX12_version_59 : decode cX12_version 59 = .ok (.iconst 1, 1) := by decide +kernel
theorem dX12_version_60 : decode cX12_version 60 = .ok (.iadd, 1) := by decide +kernel
theorem dX12_version_61 : decode cX12_version 61 = .ok (.imul, 1) := by decide +kernel
theorem dX12_version_62 : decode cX12_version 62 = .ok (.iload 4, 2) := by decide +kernel
theorem dX12_version_64 : decode cX12_version 64 = .ok (.iadd, 1) := by decide +kernel
theorem dX12_version_65 : decode cX12_version 65 = .ok (.aload_n 0, 1) := by decide +kernel
theorem dX12_version_66 : decode cX12_version 66 = .ok (.getfield 43, 3) := by decide +kernel
theorem dX12_version_69 : decode cX12_version 69 = .ok (.bipush 6, 2) := by decide +kernel
theorem dX12_version_71 : decode cX12_version 71 = .ok (.iload_n 3, 1) := by decide +kernel
theorem dX12_version_72 : decode cX12_version 72 = .ok (.imul, 1) := by decide +kernel
theorem dX12_version_73 : decode cX12_version 73 = .ok (.iload 4, 2) := by decide +kernel
theorem dX12_version_75 : decode cX12_version 75 = .ok (.iadd, 1) := by decide +kernel
theorem dX12_version_76 : decode cX12_version 76 = .ok (.iaload, 1) := by decide +kernel
theorem dX12_version_77 : decode cX12_version 77 = .ok (.iastore, 1) := by decide +kernel
theorem dX12_version_78 : decode cX12_version 78 = .ok (.iinc 4 1, 3) := by decide +kernel
theorem dX12_version_81 : decode cX12_version 81 = .ok (.goto (-36), 3) := by decide +kernel
theorem dX12_version_84 : decode cX12_version 84 = .ok (.iconst 0, 1) := by decide +kernel
theorem dX12_version_85 : decode cX12_version 85 = .ok (.istore 4, 2) := by decide +kernel
theorem dX12_version_87 : decode cX12_version 87 = .ok (.iload 4, 2) := by decide +kernel
theorem dX12_version_89 : decode cX12_version 89 = .ok (.bipush 10, 2) := by decide +kernel
theorem dX12_version_91 : decode cX12_version 91 = .ok (.if_icmp .ge 87, 3) := by decide +kernel
theorem dX12_version_94 : decode cX12_version 94 = .ok (.aload_n 0, 1) := by decide +kernel
theorem dX12_version_95 : decode cX12_version 95 = .ok (.getfield 46, 3) := by decide +kernel
theorem dX12_version_98 : decode cX12_version 98 = .ok (.bipush 10, 2) := by decide +kernel
theorem dX12_version_100 : decode cX12_version 100 = .ok (.iload_n 3, 1) := by decide +kernel
theorem dX12_version_101 : decode cX12_version 101 = .ok (.iconst 1, 1) := by decide +kernel
theorem dX12_version_102 : decode cX12_version 102 = .ok (.iadd, 1) := by decide +kernel
theorem dX12_version_103 : decode cX12_version 103 = .ok (.imul, 1) := by decide +kernel
theorem dX12_version_104 : decode cX12_version 104 = .ok (.iload 4, 2) := by decide +kernel
theorem dX12_version_106 : decode cX12_version 106 = .ok (.iadd, 1) := by decide +kernel
theorem dX12_version_107 : decode cX12_version 107 = .ok (.aload_n 0, 1) := by decide +kernel
theorem dX12_version_108 : decode cX12_version 108 = .ok (.getfield 46, 3) := by decide +kernel
theorem dX12_version_111 : decode cX12_version 111 = .ok (.bipush 10, 2) := by decide +kernel
theorem dX12_version_113 : decode cX12_version 113 = .ok (.iload_n 3, 1) := by decide +kernel
theorem dX12_version_114 : decode cX12_version 114 = .ok (.imul, 1) := by decide +kernel
theorem dX12_version_115 : decode cX12_version 115 = .ok (.iload 4, 2) := by decide +kernel
theorem dX12_version_117 : decode cX12_version 117 = .ok (.iadd, 1) := by decide +kernel
theorem dX12_version_118 : decode cX12_version 118 = .ok (.iaload, 1) := by decide +kernel
theorem dX12_version_119 : decode cX12_version 119 = .ok (.iastore, 1) := by decide +kernel
theorem dX12_version_120 : decode cX12_version 120 = .ok (.aload_n 0, 1) := by decide +kernel
theorem dX12_version_121 : decode cX12_version 121 = .ok (.getfield 49, 3) := by decide +kernel
theorem dX12_version_124 : decode cX12_version 124 = .ok (.bipush 10, 2) := by decide +kernel
theorem dX12_version_126 : decode cX12_version 126 = .ok (.iload_n 3, 1) := by decide +kernel
theorem dX12_version_127 : decode cX12_version 127 = .ok (.iconst 1, 1) := by decide +kernel
theorem dX12_version_128 : decode cX12_version 128 = .ok (.iadd, 1) := by decide +kernel
theorem dX12_version_129 : decode cX12_version 129 = .ok (.imul, 1) := by decide +kernel
theorem dX12_version_130 : decode cX12_version 130 = .ok (.iload 4, 2) := by decide +kernel
theorem dX12_version_132 : decode cX12_version 132 = .ok (.iadd, 1) := by decide +kernel
theorem dX12_version_133 : decode cX12_version 133 = .ok (.aload_n 0, 1) := by decide +kernel
theorem dX12_version_134 : decode cX12_version 134 = .ok (.getfield 49, 3) := by decide +kernel
theorem dX12_version_137 : decode cX12_version 137 = .ok (.bipush 10, 2) := by decide +kernel
theorem dX12_version_139 : decode cX12_version 139 = .ok (.iload_n 3, 1) := by decide +kernel
theorem dX12_version_140 : decode cX12_version 140 = .ok (.imul, 1) := by decide +kernel
theorem dX12_version_141 : decode cX12_version 141 = .ok (.iload 4, 2) := by decide +kernel
theorem dX12_version_143 : decode cX12_version 143 = .ok (.iadd, 1) := by decide +kernel
theorem dX12_version_144 : decode cX12_version 144 = .ok (.iaload, 1) := by decide +kernel
theorem dX12_version_145 : decode cX12_version 145 = .ok (.iastore, 1) := by decide +kernel
theorem dX12_version_146 : decode cX12_version 146 = .ok (.aload_n 0, 1) := by decide +kernel
theorem dX12_version_147 : decode cX12_version 147 = .ok (.getfield 52, 3) := by decide +kernel
theorem dX12_version_150 : decode cX12_version 150 = .ok (.bipush 10, 2) := by decide +kernel
theorem dX12_version_152 : decode cX12_version 152 = .ok (.iload_n 3, 1) := by decide +kernel
theorem dX12_version_153 : decode cX12_version 153 = .ok (.iconst 1, 1) := by decide +kernel
theorem dX12_version_154 : decode cX12_version 154 = .ok (.iadd, 1) := by decide +kernel
theorem dX12_version_155 : decode cX12_version 155 = .ok (.imul, 1) := by decide +kernel
theorem dX12_version_156 : decode cX12_version 156 = .ok (.iload 4, 2) := by decide +kernel
theorem dX12_version_158 : decode cX12_version 158 = .ok (.iadd, 1) := by decide +kernel
theorem dX12_version_159 : decode cX12_version 159 = .ok (.aload_n 0, 1) := by decide +kernel
theorem dX12_version_160 : decode cX12_version 160 = .ok (.getfield 52, 3) := by decide +kernel
theorem dX12_version_163 : decode cX12_version 163 = .ok (.bipush 10, 2) := by decide +kernel
theorem dX12_version_165 : decode cX12_version 165 = .ok (.iload_n 3, 1) := by decide +kernel
theorem dX12_version_166 : decode cX12_version 166 = .ok (.imul, 1) := by decide +kernel
theorem dX12_version_167 : decode cX12_version 167 = .ok (.iload 4, 2) := by decide +kernel
theorem dX12_version_169 : decode cX12_version 169 = .ok (.iadd, 1) := by decide +kernel
theorem dX12_version_170 : decode cX12_version 170 = .ok (.iaload, 1) := by decide +kernel
theorem dX12_version_171 : decode cX12_version 171 = .ok (.iastore, 1) := by decide +kernel
theorem dX12_version_172 : decode cX12_version 172 = .ok (.iinc 4 1, 3) := by decide +kernel
theorem dX12_version_175 : decode cX12_version 175 = .ok (.goto (-88), 3) := by decide +kernel
theorem dX12_version_178 : decode cX12_version 178 = .ok (.aload_n 0, 1) := by decide +kernel
theorem dX12_version_179 : decode cX12_version 179 = .ok (.getfield 40, 3) := by decide +kernel
theorem dX12_version_182 : decode cX12_version 182 = .ok (.iload_n 1, 1) := by decide +kernel
theorem dX12_version_183 : decode cX12_version 183 = .ok (.dup2, 1) := by decide +kernel
theorem dX12_version_184 : decode cX12_version 184 = .ok (.iaload, 1) := by decide +kernel
theorem dX12_version_185 : decode cX12_version 185 = .ok (.iconst 1, 1) := by decide +kernel
theorem dX12_version_186 : decode cX12_version 186 = .ok (.iadd, 1) := by decide +kernel
theorem dX12_version_187 : decode cX12_version 187 = .ok (.iastore, 1) := by decide +kernel
theorem dX12_version_188 : decode cX12_version 188 = .ok (.aload_n 0, 1) := by decide +kernel
theorem dX12_version_189 : decode cX12_version 189 = .ok (.getfield 40, 3) := by decide +kernel
theorem dX12_version_192 : decode cX12_version 192 = .ok (.iload_n 1, 1) := by decide +kernel
theorem dX12_version_193 : decode cX12_version 193 = .ok (.iaload, 1) := by decide +kernel
theorem dX12_version_194 : decode cX12_version 194 = .ok (.iconst 1, 1) := by decide +kernel
theorem dX12_version_195 : decode cX12_version 195 = .ok (.isub, 1) := by decide +kernel
theorem dX12_version_196 : decode cX12_version 196 = .ok (.ireturn, 1) := by decide +kernel
set_option maxRecDepth 20000 in
theorem ggX12_setType_X12_isUnit : GoodIn wsX12_setType wsX12_isUnit := goodIn_r _ [6, 7, 8, 9, 5, 10, 32, 33, 34, 35, 36, 37, 38, 39, 40, 41, 42, 43, 44, 45, 46, 47, 48, 49, 50, 51, 52, 53, 54, 55, 56, 57, 58, 59, 60, 61, 62, 63, 64, 65, 66, 67, 68, 69, 70, 71, 72, 73, 74, 75, 76, 77, 78, 79, 80, 81, 82, 83, 84, 85, 86, 87, 88, 89, 90, 91, 92, 93, 94, 95, 96, 97, 98, 99, 100, 101, 102, 103, 104, 105, 106, 107, 108, 109, 110, 111, 112, 113, 114, 115, 116, 117, 118, 119, 120, 121, 122, 123, 124, 125, 126, 127, 128, 129, 130, 131, 132, 133, 134, 135, 136, 137, 138, 139, 140] rfl (by decide +kernel)
set_option maxRecDepth 20000 in
theorem gX12_setType_X12_isUnit : GoodIn wsX12_setType (wsV RX12 320 RX12 yX12_isUnit wsX12_isUnit) := goodIn_app (goodIn_of _ (by decide +kernel)) ggX12_setType_X12_isUnit
set_option maxRecDepth 20000 in
theorem ggX12_setType_X12_isType : GoodIn wsX12_setType wsX12_isType := goodIn_r _ [14, 15, 8, 9, 5, 10, 32, 33, 34, 35, 36, 37, 38, 39, 40, 41, 42, 43, 44, 45, 46, 47, 48, 49, 50, 51, 52, 53, 54, 55, 56, 57, 58, 59, 60, 61, 62, 63, 64, 65, 66, 67, 68, 69, 70, 71, 72, 73, 74, 75, 76, 77, 78, 79, 80, 81, 82, 83, 84, 85, 86, 87, 88, 89, 90, 91, 92, 93, 94, 95, 96, 97, 98, 99, 100, 101, 102, 103, 104, 105, 106, 107, 108, 109, 110, 111, 112, 113, 114, 115, 116, 117, 118, 119, 120, 121, 122, 123, 124, 125, 126, 127, 128, 129, 130, 131, 132, 133, 134, 135, 136, 137, 138, 139, 140] rfl (by decide +kernel)
set_option maxRecDepth 20000 in
theorem gX12_setType_X12_isType : GoodIn wsX12_setType (wsV RX12 295 RX12 yX12_isType wsX12_isType) := goodIn_app (goodIn_of _ (by decide +kernel)) ggX12_setType_X12_isType
set_option maxRecDepth 20000 in
theorem ggX12_setType_X12_isName : GoodIn wsX12_setType wsX12_isName := goodIn_r _ [18, 8, 9, 5, 10] rfl (by decide +kernel)
set_option maxRecDepth 20000 in
theorem gX12_setType_X12_isName : GoodIn wsX12_setType (va_wsS RX12 291 yX12_isName wsX12_isName) := goodIn_app (goodIn_of _ (by decide +kernel)) ggX12_setType_X12_isName
set_option maxRecDepth 20000 in
theorem ggX12_setType_X12_goes : GoodIn wsX12_setType wsX12_goes := goodIn_r _ [22, 23, 32, 33, 34, 35, 36, 37, 38, 39, 40, 41, 42, 43, 44, 45, 46, 47, 48, 49, 50, 51, 52, 53, 54, 55, 56, 57, 58, 59, 60, 61, 62, 63, 64, 65, 66, 67, 68, 69, 70, 71, 72, 73, 74, 75, 76, 77, 78, 79, 80, 81, 82, 83, 84, 85, 86, 87, 88, 89, 90, 91, 92, 93, 94, 95, 96, 97, 98, 99, 100, 101, 102, 103, 104, 105, 106, 107, 108, 109, 110, 111, 112, 113, 114, 115, 116, 117, 118, 119, 120, 121, 122, 123, 124, 125, 126, 127, 128, 129, 130, 131, 132, 133, 134, 135, 136, 137, 138, 139, 140] rfl (by decide +kernel)
set_option maxRecDepth 20000 in
theorem gX12_setType_X12_goes : GoodIn wsX12_setType (wsV RX12 298 RX12 yX12_goes wsX12_goes) := goodIn_app (goodIn_of _ (by decide +kernel)) ggX12_setType_X12_goes
theorem dX12_setType_0 : decode cX12_setType 0 = .ok (.aload_n 0, 1) := by decide +kernel
theorem dX12_setType_1 : decode cX12_setType 1 = .ok (.aload_n 0, 1) := by decide +kernel
theorem dX12_setType_2 : decode cX12_setType 2 = .ok (.iload_n 1, 1) := by decide +kernel
theorem dX12_setType_3 : decode cX12_setType 3 = .ok (.invokevirtual 320, 3) := by decide +kernel
theorem dX12_setType_6 : decode cX12_setType 6 = .ok (.ifCond .eq 26, 3) := by decide +kernel
theorem dX12_setType_9 : decode cX12_setType 9 = .ok (.iload_n 3, 1) := by decide +kernel
theorem dX12_setType_10 : decode cX12_setType 10 = .ok (.iconst (-1), 1) := by decide +kernel
theorem dX12_setType_11 : decode cX12_setType 11 = .ok (.if_icmp .eq 17, 3) := by decide +kernel
theorem dX12_setType_14 : decode cX12_setType 14 = .ok (.iload_n 3, 1) := by decide +kernel
theorem dX12_setType_15 : decode cX12_setType 15 = .ok (.bipush (-2), 2) := by decide +kernel
theorem dX12_setType_17 : decode cX12_setType 17 = .ok (.if_icmp .eq 11, 3) := by decide +kernel
theorem dX12_setType_20 : decode cX12_setType 20 = .ok (.aload_n 0, 1) := by decide +kernel
theorem dX12_setType_21 : decode cX12_setType 21 = .ok (.iload_n 3, 1) := by decide +kernel
theorem dX12_setType_22 : decode cX12_setType 22 = .ok (.invokevirtual 295, 3) := by decide +kernel
theorem dX12_setType_25 : decode cX12_setType 25 = .ok (.ifCond .eq 7, 3) := by decide +kernel
theorem dX12_setType_28 : decode cX12_setType 28 = .ok (.iconst 1, 1) := by decide +kernel
theorem dX12_setType_29 : decode cX12_setType 29 = .ok (.goto 4, 3) := by decide +kernel
theorem dX12_setType_32 : decode cX12_setType 32 = .ok (.iconst 0, 1) := by decide +kernel
theorem dX12_setType_33 : decode cX12_setType 33 = .ok (.iload_n 2, 1) := by decide +kernel
theorem dX12_setType_34 : decode cX12_setType 34 = .ok (.invokestatic 291, 3) := by decide +kernel
theorem dX12_setType_37 : decode cX12_setType 37 = .ok (.iconst 1, 1) := by decide +kernel
theorem dX12_setType_38 : decode cX12_setType 38 = .ok (.invokevirtual 298, 3) := by decide +kernel
theorem dX12_setType_41 : decode cX12_setType 41 = .ok (.ifCond .eq 19, 3) := by decide +kernel
theorem dX12_setType_44 : decode cX12_setType 44 = .ok (.aload_n 0, 1) := by decide +kernel
theorem dX12_setType_45 : decode cX12_setType 45 = .ok (.getfield 43, 3) := by decide +kernel
theorem dX12_setType_48 : decode cX12_setType 48 = .ok (.bipush 6, 2) := by decide +kernel
theorem dX12_setType_50 : decode cX12_setType 50 = .ok (.aload_n 0, 1) := by decide +kernel
theorem dX12_setType_51 : decode cX12_setType 51 = .ok (.iload_n 1, 1) := by decide +kernel
theorem dX12_setType_52 : decode cX12_setType 52 = .ok (.invokevirtual 323, 3) := by decide +kernel
theorem dX12_setType_55 : decode cX12_setType 55 = .ok (.imul, 1) := by decide +kernel
theorem dX12_setType_56 : decode cX12_setType 56 = .ok (.iload_n 2, 1) := by decide +kernel
theorem dX12_setType_57 : decode cX12_setType 57 = .ok (.iadd, 1) := by decide +kernel
theorem dX12_setType_58 : decode cX12_setType 58 = .ok (.iload_n 3, 1) := by decide +kernel
theorem dX12_setType_59 : decode cX12_setType 59 = .ok (.iastore, 1) := by decide +kernel
theorem dX12_setType_60 : decode cX12_setType 60 = .ok (.return_, 1) := by decide +kernel
set_option maxRecDepth 20000 in
theorem ggX12_setValue_X12_isUnit : GoodIn wsX12_setValue wsX12_isUnit := goodIn_r _ [8, 9, 10, 11, 7, 12, 39, 40, 41, 42, 43, 44, 45, 46, 47, 48, 49, 50, 51, 52, 53, 54, 55, 56, 57, 58, 59, 60, 61, 62, 63, 64, 65, 66, 67, 68, 69, 70, 71, 72, 73, 74, 75, 76, 77, 78, 79, 80, 81, 82, 83, 84, 85, 86, 87, 88, 89, 90, 91, 92, 93, 94, 95, 96, 97, 98, 99, 100, 101, 102, 103, 104, 105, 106, 107, 108, 109, 110, 111, 112, 113, 114, 115, 116, 117, 118, 119, 120, 121, 122, 123, 124, 125, 126, 127, 128, 129, 130, 131, 132, 133, 134, 135, 136, 137, 138, 139, 140, 141, 142, 143, 144, 145, 146, 147] rfl (by decide +kernel)
set_option maxRecDepth 20000 in
theorem gX12_setValue_X12_isUnit : GoodIn wsX12_setValue (wsV RX12 320 RX12 yX12_isUnit wsX12_isUnit) := goodIn_app (goodIn_of _ (by decide +kernel)) ggX12_setValue_X12_isUnit
set_option maxRecDepth 20000 in
theorem ggX12_setValue_X12_isType : GoodIn wsX12_setValue wsX12_isType := goodIn_r _ [16, 17, 10, 11, 7, 12, 39, 40, 41, 42, 43, 44, 45, 46, 47, 48, 49, 50, 51, 52, 53, 54, 55, 56, 57, 58, 59, 60, 61, 62, 63, 64, 65, 66, 67, 68, 69, 70, 71, 72, 73, 74, 75, 76, 77, 78, 79, 80, 81, 82, 83, 84, 85, 86, 87, 88, 89, 90, 91, 92, 93, 94, 95, 96, 97, 98, 99, 100, 101, 102, 103, 104, 105, 106, 107, 108, 109, 110, 111, 112, 113, 114, 115, 116, 117, 118, 119, 120, 121, 122, 123, 124, 125, 126, 127, 128, 129, 130, 131, 132, 133, 134, 135, 136, 137, 138, 139, 140, 141, 142, 143, 144, 145, 146, 147] rfl (by decide +kernel)
set_option maxRecDepth 20000 in
theorem gX12_setValue_X12_isType : GoodIn wsX12_setValue (wsV RX12 295 RX12 yX12_isType wsX12_isType) := goodIn_app (goodIn_of _ (by decide +kernel)) ggX12_setValue_X12_isType
set_option maxRecDepth 20000 in
theorem ggX12_setValue_X12_isExpression : GoodIn wsX12_setValue wsX12_isExpression := goodIn_r _ [21, 22, 10, 11, 7, 12, 39, 40, 41, 42, 43, 44, 45, 46, 47, 48, 49, 50, 51, 52, 53, 54, 55, 56, 57, 58, 59, 60, 61, 62, 63, 64, 65, 66, 67, 68, 69, 70, 71, 72, 73, 74, 75, 76, 77, 78, 79, 80, 81, 82, 83, 84, 85, 86, 87, 88, 89, 90, 91, 92, 93, 94, 95, 96, 97, 98, 99, 100, 101, 102, 103, 104, 105, 106, 107, 108, 109, 110, 111, 112, 113, 114, 115, 116, 117, 118, 119, 120, 121, 122, 123, 124, 125, 126, 127, 128, 129, 130, 131, 132, 133, 134, 135, 136, 137, 138, 139, 140, 141, 142, 143, 144, 145, 146, 147] rfl (by decide +kernel)
set_option maxRecDepth 20000 in
theorem gX12_setValue_X12_isExpression : GoodIn wsX12_setValue (wsV RX12 313 RX12 yX12_isExpression wsX12_isExpression) := goodIn_app (goodIn_of _ (by decide +kernel)) ggX12_setValue_X12_isExpression
set_option maxRecDepth 20000 in
theorem ggX12_setValue_X12_isValue : GoodIn wsX12_setValue wsX12_isValue := goodIn_r _ [25, 10, 11, 7, 12] rfl (by decide +kernel)
set_option maxRecDepth 20000 in
theorem gX12_setValue_X12_isValue : GoodIn wsX12_setValue (va_wsS RX12 302 yX12_isValue wsX12_isValue) := goodIn_app (goodIn_of _ (by decide +kernel)) ggX12_setValue_X12_isValue
set_option maxRecDepth 20000 in
theorem ggX12_setValue_X12_in : GoodIn wsX12_setValue wsX12_in := goodIn_r _ [12] rfl (by decide +kernel)
set_option maxRecDepth 20000 in
theorem gX12_setValue_X12_in : GoodIn wsX12_setValue (va_wsS RX12 278 yX12_in wsX12_in) := goodIn_app (goodIn_of _ (by decide +kernel)) ggX12_setValue_X12_in
set_option maxRecDepth 20000 in
theorem ggX12_setValue_X12_goes : GoodIn wsX12_setValue wsX12_goes := goodIn_r _ [29, 30, 39, 40, 41, 42, 43, 44, 45, 46, 47, 48, 49, 50, 51, 52, 53, 54, 55, 56, 57, 58, 59, 60, 61, 62, 63, 64, 65, 66, 67, 68, 69, 70, 71, 72, 73, 74, 75, 76, 77, 78, 79, 80, 81, 82, 83, 84, 85, 86, 87, 88, 89, 90, 91, 92, 93, 94, 95, 96, 97, 98, 99, 100, 101, 102, 103, 104, 105, 106, 107, 108, 109, 110, 111, 112, 113, 114, 115, 116, 117, 118, 119, 120, 121, 122, 123, 124, 125, 126, 127, 128, 129, 130, 131, 132, 133, 134, 135, 136, 137, 138, 139, 140, 141, 142, 143, 144, 145, 146, 147] rfl (by decide +kernel)
set_option maxRecDepth 20000 in
theorem gX12_setValue_X12_goes : GoodIn wsX12_setValue (wsV RX12 298 RX12 yX12_goes wsX12_goes) := goodIn_app (goodIn_of _ (by decide +kernel)) ggX12_setValue_X12_goes
theorem dX12_setValue_0 : decode cX12_setValue 0 = .ok (.aload_n 0, 1) := by decide +kernel
theorem dX12_setValue_1 : decode cX12_setValue 1 = .ok (.iload_n 1, 1) := by decide +kernel
theorem dX12_setValue_2 : decode cX12_setValue 2 = .ok (.invokevirtual 320, 3) := by decide +kernel
theorem dX12_setValue_5 : decode cX12_setValue 5 = .ok (.ifCond .eq 30, 3) := by decide +kernel
theorem dX12_setValue_8 : decode cX12_setValue 8 = .ok (.aload_n 0, 1) := by decide +kernel
theorem dX12_setValue_9 : decode cX12_setValue 9 = .ok (.iload_n 3, 1) := by decide +kernel
theorem dX12_setValue_10 : decode cX12_setValue 10 = .ok (.invokevirtual 295, 3) := by decide +kernel
theorem dX12_setValue_13 : decode cX12_setValue 13 = .ok (.ifCond .eq 22, 3) := by decide +kernel
theorem dX12_setValue_16 : decode cX12_setValue 16 = .ok (.iload 4, 2) := by decide +kernel
theorem dX12_setValue_18 : decode cX12_setValue 18 = .ok (.iconst (-1), 1) := by decide +kernel
theorem dX12_setValue_19 : decode cX12_setValue 19 = .ok (.if_icmp .eq 12, 3) := by decide +kernel
theorem dX12_setValue_22 : decode cX12_setValue 22 = .ok (.aload_n 0, 1) := by decide +kernel
theorem dX12_setValue_23 : decode cX12_setValue 23 = .ok (.iload 4, 2) := by decide +kernel
theorem dX12_setValue_25 : decode cX12_setValue 25 = .ok (.invokevirtual 313, 3) := by decide +kernel
theorem dX12_setValue_28 : decode cX12_setValue 28 = .ok (.ifCond .eq 7, 3) := by decide +kernel
theorem dX12_setValue_31 : decode cX12_setValue 31 = .ok (.iconst 1, 1) := by decide +kernel
theorem dX12_setValue_32 : decode cX12_setValue 32 = .ok (.goto 4, 3) := by decide +kernel
theorem dX12_setValue_35 : decode cX12_setValue 35 = .ok (.iconst 0, 1) := by decide +kernel
theorem dX12_setValue_36 : decode cX12_setValue 36 = .ok (.istore 6, 2) := by decide +kernel
theorem dX12_setValue_38 : decode cX12_setValue 38 = .ok (.iload_n 2, 1) := by decide +kernel
theorem dX12_setValue_39 : decode cX12_setValue 39 = .ok (.invokestatic 302, 3) := by decide +kernel
theorem dX12_setValue_42 : decode cX12_setValue 42 = .ok (.ifCond .eq 35, 3) := by decide +kernel
theorem dX12_setValue_45 : decode cX12_setValue 45 = .ok (.iload 5, 2) := by decide +kernel
theorem dX12_setValue_47 : decode cX12_setValue 47 = .ok (.iconst 0, 1) := by decide +kernel
theorem dX12_setValue_48 : decode cX12_setValue 48 = .ok (.bipush 7, 2) := by decide +kernel
theorem dX12_setValue_50 : decode cX12_setValue 50 = .ok (.invokestatic 278, 3) := by decide +kernel
theorem dX12_setValue_53 : decode cX12_setValue 53 = .ok (.ifCond .eq 24, 3) := by decide +kernel
theorem dX12_setValue_56 : decode cX12_setValue 56 = .ok (.iload 4, 2) := by decide +kernel
theorem dX12_setValue_58 : decode cX12_setValue 58 = .ok (.iconst (-1), 1) := by decide +kernel
theorem dX12_setValue_59 : decode cX12_setValue 59 = .ok (.if_icmp .ne 14, 3) := by decide +kernel
theorem dX12_setValue_62 : decode cX12_setValue 62 = .ok (.iload 5, 2) := by decide +kernel
theorem dX12_setValue_64 : decode cX12_setValue 64 = .ok (.ifCond .eq 9, 3) := by decide +kernel
theorem dX12_setValue_67 : decode cX12_setValue 67 = .ok (.iload 5, 2) := by decide +kernel
theorem dX12_setValue_69 : decode cX12_setValue 69 = .ok (.iconst 4, 1) := by decide +kernel
theorem dX12_setValue_70 : decode cX12_setValue 70 = .ok (.if_icmp .ne 7, 3) := by decide +kernel
theorem dX12_setValue_73 : decode cX12_setValue 73 = .ok (.iconst 1, 1) := by decide +kernel
theorem dX12_setValue_74 : decode cX12_setValue 74 = .ok (.goto 4, 3) := by decide +kernel
theorem dX12_setValue_77 : decode cX12_setValue 77 = .ok (.iconst 0, 1) := by decide +kernel
theorem dX12_setValue_78 : decode cX12_setValue 78 = .ok (.istore 7, 2) := by decide +kernel
theorem dX12_setValue_80 : decode cX12_setValue 80 = .ok (.aload_n 0, 1) := by decide +kernel
theorem dX12_setValue_81 : decode cX12_setValue 81 = .ok (.iload 6, 2) := by decide +kernel
theorem dX12_setValue_83 : decode cX12_setValue 83 = .ok (.iload 7, 2) := by decide +kernel
theorem dX12_setValue_85 : decode cX12_setValue 85 = .ok (.iconst 1, 1) := by decide +kernel
theorem dX12_setValue_86 : decode cX12_setValue 86 = .ok (.invokevirtual 298, 3) := by decide +kernel
theorem dX12_setValue_89 : decode cX12_setValue 89 = .ok (.ifCond .eq 41, 3) := by decide +kernel
theorem dX12_setValue_92 : decode cX12_setValue 92 = .ok (.bipush 10, 2) := by decide +kernel
theorem dX12_setValue_94 : decode cX12_setValue 94 = .ok (.aload_n 0, 1) := by decide +kernel
theorem dX12_setValue_95 : decode cX12_setValue 95 = .ok (.iload_n 1, 1) := by decide +kernel
theorem dX12_setValue_96 : decode cX12_setValue 96 = .ok (.invokevirtual 323, 3) := by decide +kernel
theorem dX12_setValue_99 : decode cX12_setValue 99 = .ok (.imul, 1) := by decide +kernel
theorem dX12_setValue_100 : decode cX12_setValue 100 = .ok (.iload_n 2, 1) := by decide +kernel
theorem dX12_setValue_101 : decode cX12_setValue 101 = .ok (.iadd, 1) := by decide +kernel
theorem dX12_setValue_102 : decode cX12_setValue 102 = .ok (.istore 8, 2) := by decide +kernel
theorem dX12_setValue_104 : decode cX12_setValue 104 = .ok (.aload_n 0, 1) := by decide +kernel
theorem dX12_setValue_105 : decode cX12_setValue 105 = .ok (.getfield 46, 3) := by decide +kernel
theorem dX12_setValue_108 : decode cX12_setValue 108 = .ok (.iload 8, 2) := by decide +kernel
theorem dX12_setValue_110 : decode cX12_setValue 110 = .ok (.iload_n 3, 1) := by decide +kernel
theorem dX12_setValue_111 : decode cX12_setValue 111 = .ok (.iastore, 1) := by decide +kernel
theorem dX12_setValue_112 : decode cX12_setValue 112 = .ok (.aload_n 0, 1) := by decide +kernel
theorem dX12_setValue_113 : decode cX12_setValue 113 = .ok (.getfield 49, 3) := by decide +kernel
theorem dX12_setValue_116 : decode cX12_setValue 116 = .ok (.iload 8, 2) := by decide +kernel
theorem dX12_setValue_118 : decode cX12_setValue 118 = .ok (.iload 4, 2) := by decide +kernel
theorem dX12_setValue_120 : decode cX12_setValue 120 = .ok (.iastore, 1) := by decide +kernel
theorem dX12_setValue_121 : decode cX12_setValue 121 = .ok (.aload_n 0, 1) := by decide +kernel
theorem dX12_setValue_122 : decode cX12_setValue 122 = .ok (.getfield 52, 3) := by decide +kernel
theorem dX12_setValue_125 : decode cX12_setValue 125 = .ok (.iload 8, 2) := by decide +kernel
theorem dX12_setValue_127 : decode cX12_setValue 127 = .ok (.iload 5, 2) := by decide +kernel
theorem dX12_setValue_129 : decode cX12_setValue 129 = .ok (.iastore, 1) := by decide +kernel
theorem dX12_setValue_130 : decode cX12_setValue 130 = .ok (.return_, 1) := by decide +kernel
set_option maxRecDepth 20000 in
theorem ggX12_remove_X12_isUnit : GoodIn wsX12_remove wsX12_isUnit := goodIn_r _ [6, 7, 8, 9, 5, 10, 27, 28, 29, 30, 31, 32, 33, 34, 35, 36, 37, 38, 39, 40, 41, 42, 43, 44, 45, 46, 47, 48, 49, 50, 51, 52, 53, 54, 55, 56, 57, 58, 59, 60, 61, 62, 63, 64, 65, 66, 67, 68, 69, 70, 71, 72, 73, 74, 75, 76, 77, 78, 79, 80, 81, 82, 83, 84, 85, 86, 87, 88, 89, 90, 91, 92, 93, 94, 95, 96, 97, 98, 99, 100, 101, 102, 103, 104, 105, 106, 107, 108, 109, 110, 111, 112, 113, 114, 115, 116, 117, 118, 119, 120, 121, 122, 123, 124, 125, 126, 127, 128, 129, 130, 131, 132, 133, 134, 135] rfl (by decide +kernel)
set_option maxRecDepth 20000 in
theorem gX12_remove_X12_isUnit : GoodIn wsX12_remove (wsV RX12 320 RX12 yX12_isUnit wsX12_isUnit) := goodIn_app (goodIn_of _ (by decide +kernel)) ggX12_remove_X12_isUnit
set_option maxRecDepth 20000 in
theorem ggX12_remove_X12_isValue : GoodIn wsX12_remove wsX12_isValue := goodIn_r _ [13, 8, 9, 5, 10] rfl (by decide +kernel)
set_option maxRecDepth 20000 in
theorem gX12_remove_X12_isValue : GoodIn wsX12_remove (va_wsS RX12 302 yX12_isValue wsX12_isValue) := goodIn_app (goodIn_of _ (by decide +kernel)) ggX12_remove_X12_isValue
set_option maxRecDepth 20000 in
theorem ggX12_remove_X12_goes : GoodIn wsX12_remove wsX12_goes := goodIn_r _ [17, 18, 27, 28, 29, 30, 31, 32, 33, 34, 35, 36, 37, 38, 39, 40, 41, 42, 43, 44, 45, 46, 47, 48, 49, 50, 51, 52, 53, 54, 55, 56, 57, 58, 59, 60, 61, 62, 63, 64, 65, 66, 67, 68, 69, 70, 71, 72, 73, 74, 75, 76, 77, 78, 79, 80, 81, 82, 83, 84, 85, 86, 87, 88, 89, 90, 91, 92, 93, 94, 95, 96, 97, 98, 99, 100, 101, 102, 103, 104, 105, 106, 107, 108, 109, 110, 111, 112, 113, 114, 115, 116, 117, 118, 119, 120, 121, 122, 123, 124, 125, 126, 127, 128, 129, 130, 131, 132, 133, 134, 135] rfl (by decide +kernel)
set_option maxRecDepth 20000 in
theorem gX12_remove_X12_goes : GoodIn wsX12_remove (wsV RX12 298 RX12 yX12_goes wsX12_goes) := goodIn_app (goodIn_of _ (by decide +kernel)) ggX12_remove_X12_goes
theorem dX12_remove_0 : decode cX12_remove 0 = .ok (.aload_n 0, 1) := by decide +kernel
theorem dX12_remove_1 : decode cX12_remove 1 = .ok (.aload_n 0, 1) := by decide +kernel
theorem dX12_remove_2 : decode cX12_remove 2 = .ok (.iload_n 1, 1) := by decide +kernel
theorem dX12_remove_3 : decode cX12_remove 3 = .ok (.invokevirtual 320, 3) := by decide +kernel
theorem dX12_remove_6 : decode cX12_remove 6 = .ok (.iload_n 2, 1) := by decide +kernel
theorem dX12_remove_7 : decode cX12_remove 7 = .ok (.invokestatic 302, 3) := by decide +kernel
theorem dX12_remove_10 : decode cX12_remove 10 = .ok (.iconst 1, 1) := by decide +kernel
theorem dX12_remove_11 : decode cX12_remove 11 = .ok (.invokevirtual 298, 3) := by decide +kernel
theorem dX12_remove_14 : decode cX12_remove 14 = .ok (.ifCond .ne 5, 3) := by decide +kernel
theorem dX12_remove_17 : decode cX12_remove 17 = .ok (.iconst 0, 1) := by decide +kernel
theorem dX12_remove_18 : decode cX12_remove 18 = .ok (.ireturn, 1) := by decide +kernel
theorem dX12_remove_19 : decode cX12_remove 19 = .ok (.bipush 10, 2) := by decide +kernel
theorem dX12_remove_21 : decode cX12_remove 21 = .ok (.aload_n 0, 1) := by decide +kernel
theorem dX12_remove_22 : decode cX12_remove 22 = .ok (.iload_n 1, 1) := by decide +kernel
theorem dX12_remove_23 : decode cX12_remove 23 = .ok (.invokevirtual 323, 3) := by decide +kernel
theorem dX12_remove_26 : decode cX12_remove 26 = .ok (.imul, 1) := by decide +kernel
theorem dX12_remove_27 : decode cX12_remove 27 = .ok (.iload_n 2, 1) := by decide +kernel
theorem dX12_remove_28 : decode cX12_remove 28 = .ok (.iadd, 1) := by decide +kernel
theorem dX12_remove_29 : decode cX12_remove 29 = .ok (.istore_n 3, 1) := by decide +kernel
theorem dX12_remove_30 : decode cX12_remove 30 = .ok (.aload_n 0, 1) := by decide +kernel
theorem dX12_remove_31 : decode cX12_remove 31 = .ok (.getfield 46, 3) := by decide +kernel
theorem dX12_remove_34 : decode cX12_remove 34 = .ok (.iload_n 3, 1) := by decide +kernel
theorem dX12_remove_35 : decode cX12_remove 35 = .ok (.iaload, 1) := by decide +kernel
theorem dX12_remove_36 : decode cX12_remove 36 = .ok (.iconst (-1), 1) := by decide +kernel
theorem dX12_remove_37 : decode cX12_remove 37 = .ok (.if_icmp .eq 7, 3) := by decide +kernel
theorem dX12_remove_40 : decode cX12_remove 40 = .ok (.iconst 1, 1) := by decide +kernel
theorem dX12_remove_41 : decode cX12_remove 41 = .ok (.goto 4, 3) := by decide +kernel
theorem dX12_remove_44 : decode cX12_remove 44 = .ok (.iconst 0, 1) := by decide +kernel
theorem dX12_remove_45 : decode cX12_remove 45 = .ok (.istore 4, 2) := by decide +kernel
theorem dX12_remove_47 : decode cX12_remove 47 = .ok (.aload_n 0, 1) := by decide +kernel
theorem dX12_remove_48 : decode cX12_remove 48 = .ok (.getfield 46, 3) := by decide +kernel
theorem dX12_remove_51 : decode cX12_remove 51 = .ok (.iload_n 3, 1) := by decide +kernel
theorem dX12_remove_52 : decode cX12_remove 52 = .ok (.iconst (-1), 1) := by decide +kernel
theorem dX12_remove_53 : decode cX12_remove 53 = .ok (.iastore, 1) := by decide +kernel
theorem dX12_remove_54 : decode cX12_remove 54 = .ok (.iload 4, 2) := by decide +kernel
theorem dX12_remove_56 : decode cX12_remove 56 = .ok (.ireturn, 1) := by decide +kernel
set_option maxRecDepth 20000 in
theorem ggX12_unitNode_X12_isUnit : GoodIn wsX12_unitNode wsX12_isUnit := goodIn_r _ [7, 8, 9, 10, 6, 11, 27, 28, 29, 30, 31, 32, 33, 34, 35, 36, 37, 38, 39, 40, 41, 42, 43, 44, 45, 46, 47, 48, 49, 50, 51, 52, 53, 54, 55, 56, 57, 58, 59, 60, 61, 62, 63, 64, 65, 66, 67, 68, 69, 70, 71, 72, 73, 74, 75, 76, 77, 78, 79, 80, 81, 82, 83, 84, 85, 86, 87, 88, 89, 90, 91, 92, 93, 94, 95, 96, 97, 98, 99, 100, 101, 102, 103, 104, 105, 106, 107, 108, 109, 110, 111, 112, 113, 114, 115, 116, 117, 118, 119, 120, 121, 122, 123, 124, 125, 126, 127, 128, 129, 130, 131, 132, 133, 134, 135] rfl (by decide +kernel)
set_option maxRecDepth 20000 in
theorem gX12_unitNode_X12_isUnit : GoodIn wsX12_unitNode (wsV RX12 320 RX12 yX12_isUnit wsX12_isUnit) := goodIn_app (goodIn_of _ (by decide +kernel)) ggX12_unitNode_X12_isUnit
set_option maxRecDepth 20000 in
theorem ggX12_unitNode_X12_in : GoodIn wsX12_unitNode wsX12_in := goodIn_r _ [11] rfl (by decide +kernel)
set_option maxRecDepth 20000 in
theorem gX12_unitNode_X12_in : GoodIn wsX12_unitNode (va_wsS RX12 278 yX12_in wsX12_in) := goodIn_app (goodIn_of _ (by decide +kernel)) ggX12_unitNode_X12_in
set_option maxRecDepth 20000 in
theorem ggX12_unitNode_X12_goes : GoodIn wsX12_unitNode wsX12_goes := goodIn_r _ [15, 16, 27, 28, 29, 30, 31, 32, 33, 34, 35, 36, 37, 38, 39, 40, 41, 42, 43, 44, 45, 46, 47, 48, 49, 50, 51, 52, 53, 54, 55, 56, 57, 58, 59, 60, 61, 62, 63, 64, 65, 66, 67, 68, 69, 70, 71, 72, 73, 74, 75, 76, 77, 78, 79, 80, 81, 82, 83, 84, 85, 86, 87, 88, 89, 90, 91, 92, 93, 94, 95, 96, 97, 98, 99, 100, 101, 102, 103, 104, 105, 106, 107, 108, 109, 110, 111, 112, 113, 114, 115, 116, 117, 118, 119, 120, 121, 122, 123, 124, 125, 126, 127, 128, 129, 130, 131, 132, 133, 134, 135] rfl (by decide +kernel)
set_option maxRecDepth 20000 in
theorem gX12_unitNode_X12_goes : GoodIn wsX12_unitNode (wsV RX12 298 RX12 yX12_goes wsX12_goes) := goodIn_app (goodIn_of _ (by decide +kernel)) ggX12_unitNode_X12_goes
theorem dX12_unitNode_0 : decode cX12_unitNode 0 = .ok (.aload_n 0, 1) := by decide +kernel
theorem dX12_unitNode_1 : decode cX12_unitNode 1 = .ok (.iload_n 1, 1) := by decide +kernel
theorem dX12_unitNode_2 : decode cX12_unitNode 2 = .ok (.invokevirtual 320, 3) := by decide +kernel
theorem dX12_unitNode_5 : decode cX12_unitNode 5 = .ok (.ifCond .eq 28, 3) := by decide +kernel
theorem dX12_unitNode_8 : decode cX12_unitNode 8 = .ok (.iload_n 2, 1) := by decide +kernel
theorem dX12_unitNode_9 : decode cX12_unitNode 9 = .ok (.iconst (-1), 1) := by decide +kernel
theorem dX12_unitNode_10 : decode cX12_unitNode 10 = .ok (.if_icmp .eq 19, 3) := by decide +kernel
theorem dX12_unitNode_13 : decode cX12_unitNode 13 = .ok (.iload_n 2, 1) := by decide +kernel
theorem dX12_unitNode_14 : decode cX12_unitNode 14 = .ok (.iconst 0, 1) := by decide +kernel
theorem dX12_unitNode_15 : decode cX12_unitNode 15 = .ok (.aload_n 0, 1) := by decide +kernel
theorem dX12_unitNode_16 : decode cX12_unitNode 16 = .ok (.getfield 40, 3) := by decide +kernel
theorem dX12_unitNode_19 : decode cX12_unitNode 19 = .ok (.iload_n 1, 1) := by decide +kernel
theorem dX12_unitNode_20 : decode cX12_unitNode 20 = .ok (.iaload, 1) := by decide +kernel
theorem dX12_unitNode_21 : decode cX12_unitNode 21 = .ok (.iconst 1, 1) := by decide +kernel
theorem dX12_unitNode_22 : decode cX12_unitNode 22 = .ok (.isub, 1) := by decide +kernel
theorem dX12_unitNode_23 : decode cX12_unitNode 23 = .ok (.invokestatic 278, 3) := by decide +kernel
theorem dX12_unitNode_26 : decode cX12_unitNode 26 = .ok (.ifCond .eq 7, 3) := by decide +kernel
theorem dX12_unitNode_29 : decode cX12_unitNode 29 = .ok (.iconst 1, 1) := by decide +kernel
theorem dX12_unitNode_30 : decode cX12_unitNode 30 = .ok (.goto 4, 3) := by decide +kernel
theorem dX12_unitNode_33 : decode cX12_unitNode 33 = .ok (.iconst 0, 1) := by decide +kernel
theorem dX12_unitNode_34 : decode cX12_unitNode 34 = .ok (.istore_n 3, 1) := by decide +kernel
theorem dX12_unitNode_35 : decode cX12_unitNode 35 = .ok (.aload_n 0, 1) := by decide +kernel
theorem dX12_unitNode_36 : decode cX12_unitNode 36 = .ok (.iload_n 3, 1) := by decide +kernel
theorem dX12_unitNode_37 : decode cX12_unitNode 37 = .ok (.aload_n 0, 1) := by decide +kernel
theorem dX12_unitNode_38 : decode cX12_unitNode 38 = .ok (.getfield 288, 3) := by decide +kernel
theorem dX12_unitNode_41 : decode cX12_unitNode 41 = .ok (.bipush 40, 2) := by decide +kernel
theorem dX12_unitNode_43 : decode cX12_unitNode 43 = .ok (.if_icmp .ge 7, 3) := by decide +kernel
theorem dX12_unitNode_46 : decode cX12_unitNode 46 = .ok (.iconst 1, 1) := by decide +kernel
theorem dX12_unitNode_47 : decode cX12_unitNode 47 = .ok (.goto 4, 3) := by decide +kernel
theorem dX12_unitNode_50 : decode cX12_unitNode 50 = .ok (.iconst 0, 1) := by decide +kernel
theorem dX12_unitNode_51 : decode cX12_unitNode 51 = .ok (.iconst 1, 1) := by decide +kernel
theorem dX12_unitNode_52 : decode cX12_unitNode 52 = .ok (.invokevirtual 298, 3) := by decide +kernel
theorem dX12_unitNode_55 : decode cX12_unitNode 55 = .ok (.ifCond .eq 16, 3) := by decide +kernel
theorem dX12_unitNode_58 : decode cX12_unitNode 58 = .ok (.aload_n 0, 1) := by decide +kernel
theorem dX12_unitNode_59 : decode cX12_unitNode 59 = .ok (.iconst 0, 1) := by decide +kernel
theorem dX12_unitNode_60 : decode cX12_unitNode 60 = .ok (.iload_n 1, 1) := by decide +kernel
theorem dX12_unitNode_61 : decode cX12_unitNode 61 = .ok (.iload_n 2, 1) := by decide +kernel
theorem dX12_unitNode_62 : decode cX12_unitNode 62 = .ok (.iconst 0, 1) := by decide +kernel
theorem dX12_unitNode_63 : decode cX12_unitNode 63 = .ok (.iconst 1, 1) := by decide +kernel
theorem dX12_unitNode_64 : decode cX12_unitNode 64 = .ok (.iconst 0, 1) := by decide +kernel
theorem dX12_unitNode_65 : decode cX12_unitNode 65 = .ok (.invokevirtual 326, 3) := by decide +kernel
theorem dX12_unitNode_68 : decode cX12_unitNode 68 = .ok (.goto 4, 3) := by decide +kernel
theorem dX12_unitNode_71 : decode cX12_unitNode 71 = .ok (.iconst 0, 1) := by decide +kernel
theorem dX12_unitNode_72 : decode cX12_unitNode 72 = .ok (.ireturn, 1) := by decide +kernel
set_option maxRecDepth 20000 in
theorem ggX12_node_X12_isNode : GoodIn wsX12_node wsX12_isNode := goodIn_r _ [7, 2, 8, 9, 6, 10, 25, 26, 27, 28, 29, 30, 31, 32, 33, 34, 35, 36, 37, 38, 39, 40, 41, 42, 43, 44, 45, 46, 47, 48, 49, 50, 51, 52, 53, 54, 55, 56, 57, 58, 59, 60, 61, 62, 63, 64, 65, 66, 67, 68, 69, 70, 71, 72, 73, 74, 75, 76, 77, 78, 79, 80, 81, 82, 83, 84, 85, 86, 87, 88, 89, 90, 91, 92, 93, 94, 95, 96, 97, 98, 99, 100, 101, 102, 103, 104, 105, 106, 107, 108, 109, 110, 111, 112, 113, 114, 115, 116, 117, 118, 119, 120, 121, 122, 123, 124, 125, 126, 127, 128, 129, 130, 131, 132, 133] rfl (by decide +kernel)
set_option maxRecDepth 20000 in
theorem gX12_node_X12_isNode : GoodIn wsX12_node (wsV RX12 330 RX12 yX12_isNode wsX12_isNode) := goodIn_app (goodIn_of _ (by decide +kernel)) ggX12_node_X12_isNode
set_option maxRecDepth 20000 in
theorem ggX12_node_X12_in : GoodIn wsX12_node wsX12_in := goodIn_r _ [10] rfl (by decide +kernel)
set_option maxRecDepth 20000 in
theorem gX12_node_X12_in : GoodIn wsX12_node (va_wsS RX12 278 yX12_in wsX12_in) := goodIn_app (goodIn_of _ (by decide +kernel)) ggX12_node_X12_in
set_option maxRecDepth 20000 in
theorem ggX12_node_X12_goes : GoodIn wsX12_node wsX12_goes := goodIn_r _ [14, 15, 25, 26, 27, 28, 29, 30, 31, 32, 33, 34, 35, 36, 37, 38, 39, 40, 41, 42, 43, 44, 45, 46, 47, 48, 49, 50, 51, 52, 53, 54, 55, 56, 57, 58, 59, 60, 61, 62, 63, 64, 65, 66, 67, 68, 69, 70, 71, 72, 73, 74, 75, 76, 77, 78, 79, 80, 81, 82, 83, 84, 85, 86, 87, 88, 89, 90, 91, 92, 93, 94, 95, 96, 97, 98, 99, 100, 101, 102, 103, 104, 105, 106, 107, 108, 109, 110, 111, 112, 113, 114, 115, 116, 117, 118, 119, 120, 121, 122, 123, 124, 125, 126, 127, 128, 129, 130, 131, 132, 133] rfl (by decide +kernel)
set_option maxRecDepth 20000 in
theorem gX12_node_X12_goes : GoodIn wsX12_node (wsV RX12 298 RX12 yX12_goes wsX12_goes) := goodIn_app (goodIn_of _ (by decide +kernel)) ggX12_node_X12_goes
theorem dX12_node_0 : decode cX12_node 0 = .ok (.aload_n 0, 1) := by decide +kernel
theorem dX12_node_1 : decode cX12_node 1 = .ok (.iload_n 2, 1) := by decide +kernel
theorem dX12_node_2 : decode cX12_node 2 = .ok (.invokevirtual 330, 3) := by decide +kernel
theorem dX12_node_5 : decode cX12_node 5 = .ok (.ifCond .eq 15, 3) := by decide +kernel
theorem dX12_node_8 : decode cX12_node 8 = .ok (.aload_n 0, 1) := by decide +kernel
theorem dX12_node_9 : decode cX12_node 9 = .ok (.iload_n 3, 1) := by decide +kernel
theorem dX12_node_10 : decode cX12_node 10 = .ok (.invokevirtual 330, 3) := by decide +kernel
theorem dX12_node_13 : decode cX12_node 13 = .ok (.ifCond .eq 7, 3) := by decide +kernel
theorem dX12_node_16 : decode cX12_node 16 = .ok (.iconst 1, 1) := by decide +kernel
theorem dX12_node_17 : decode cX12_node 17 = .ok (.goto 4, 3) := by decide +kernel
theorem dX12_node_20 : decode cX12_node 20 = .ok (.iconst 0, 1) := by decide +kernel
theorem dX12_node_21 : decode cX12_node 21 = .ok (.istore 5, 2) := by decide +kernel
theorem dX12_node_23 : decode cX12_node 23 = .ok (.iload 5, 2) := by decide +kernel
theorem dX12_node_25 : decode cX12_node 25 = .ok (.ifCond .eq 21, 3) := by decide +kernel
theorem dX12_node_28 : decode cX12_node 28 = .ok (.iconst 1, 1) := by decide +kernel
theorem dX12_node_29 : decode cX12_node 29 = .ok (.aload_n 0, 1) := by decide +kernel
theorem dX12_node_30 : decode cX12_node 30 = .ok (.getfield 67, 3) := by decide +kernel
theorem dX12_node_33 : decode cX12_node 33 = .ok (.iload_n 2, 1) := by decide +kernel
theorem dX12_node_34 : decode cX12_node 34 = .ok (.iaload, 1) := by decide +kernel
theorem dX12_node_35 : decode cX12_node 35 = .ok (.iadd, 1) := by decide +kernel
theorem dX12_node_36 : decode cX12_node 36 = .ok (.aload_n 0, 1) := by decide +kernel
theorem dX12_node_37 : decode cX12_node 37 = .ok (.getfield 67, 3) := by decide +kernel
theorem dX12_node_40 : decode cX12_node 40 = .ok (.iload_n 3, 1) := by decide +kernel
theorem dX12_node_41 : decode cX12_node 41 = .ok (.iaload, 1) := by decide +kernel
theorem dX12_node_42 : decode cX12_node 42 = .ok (.iadd, 1) := by decide +kernel
theorem dX12_node_43 : decode cX12_node 43 = .ok (.goto 4, 3) := by decide +kernel
theorem dX12_node_46 : decode cX12_node 46 = .ok (.iconst 1, 1) := by decide +kernel
theorem dX12_node_47 : decode cX12_node 47 = .ok (.istore 6, 2) := by decide +kernel
theorem dX12_node_49 : decode cX12_node 49 = .ok (.aload_n 0, 1) := by decide +kernel
theorem dX12_node_50 : decode cX12_node 50 = .ok (.iload_n 1, 1) := by decide +kernel
theorem dX12_node_51 : decode cX12_node 51 = .ok (.iconst 0, 1) := by decide +kernel
theorem dX12_node_52 : decode cX12_node 52 = .ok (.iconst 2, 1) := by decide +kernel
theorem dX12_node_53 : decode cX12_node 53 = .ok (.invokestatic 278, 3) := by decide +kernel
theorem dX12_node_56 : decode cX12_node 56 = .ok (.iload 5, 2) := by decide +kernel
theorem dX12_node_58 : decode cX12_node 58 = .ok (.aload_n 0, 1) := by decide +kernel
theorem dX12_node_59 : decode cX12_node 59 = .ok (.getfield 288, 3) := by decide +kernel
theorem dX12_node_62 : decode cX12_node 62 = .ok (.bipush 40, 2) := by decide +kernel
theorem dX12_node_64 : decode cX12_node 64 = .ok (.if_icmp .ge 14, 3) := by decide +kernel
theorem dX12_node_67 : decode cX12_node 67 = .ok (.iload 6, 2) := by decide +kernel
theorem dX12_node_69 : decode cX12_node 69 = .ok (.bipush 24, 2) := by decide +kernel
theorem dX12_node_71 : decode cX12_node 71 = .ok (.if_icmp .gt 7, 3) := by decide +kernel
theorem dX12_node_74 : decode cX12_node 74 = .ok (.iconst 1, 1) := by decide +kernel
theorem dX12_node_75 : decode cX12_node 75 = .ok (.goto 4, 3) := by decide +kernel
theorem dX12_node_78 : decode cX12_node 78 = .ok (.iconst 0, 1) := by decide +kernel
theorem dX12_node_79 : decode cX12_node 79 = .ok (.invokevirtual 298, 3) := by decide +kernel
theorem dX12_node_82 : decode cX12_node 82 = .ok (.ifCond .ne 5, 3) := by decide +kernel
theorem dX12_node_85 : decode cX12_node 85 = .ok (.iconst 0, 1) := by decide +kernel
theorem dX12_node_86 : decode cX12_node 86 = .ok (.ireturn, 1) := by decide +kernel
theorem dX12_node_87 : decode cX12_node 87 = .ok (.aload_n 0, 1) := by decide +kernel
theorem dX12_node_88 : decode cX12_node 88 = .ok (.iload_n 1, 1) := by decide +kernel
theorem dX12_node_89 : decode cX12_node 89 = .ok (.iconst 1, 1) := by decide +kernel
theorem dX12_node_90 : decode cX12_node 90 = .ok (.iadd, 1) := by decide +kernel
theorem dX12_node_91 : decode cX12_node 91 = .ok (.iload_n 2, 1) := by decide +kernel
theorem dX12_node_92 : decode cX12_node 92 = .ok (.iload_n 3, 1) := by decide +kernel
theorem dX12_node_93 : decode cX12_node 93 = .ok (.iconst 0, 1) := by decide +kernel
theorem dX12_node_94 : decode cX12_node 94 = .ok (.iload 6, 2) := by decide +kernel
theorem dX12_node_96 : decode cX12_node 96 = .ok (.iload 4, 2) := by decide +kernel
theorem dX12_node_98 : decode cX12_node 98 = .ok (.ifCond .eq 11, 3) := by decide +kernel
theorem dX12_node_101 : decode cX12_node 101 = .ok (.iload_n 1, 1) := by decide +kernel
theorem dX12_node_102 : decode cX12_node 102 = .ok (.ifCond .le 7, 3) := by decide +kernel
theorem dX12_node_105 : decode cX12_node 105 = .ok (.iconst 1, 1) := by decide +kernel
theorem dX12_node_106 : decode cX12_node 106 = .ok (.goto 4, 3) := by decide +kernel
theorem dX12_node_109 : decode cX12_node 109 = .ok (.iconst 0, 1) := by decide +kernel
theorem dX12_node_110 : decode cX12_node 110 = .ok (.invokevirtual 326, 3) := by decide +kernel
theorem dX12_node_113 : decode cX12_node 113 = .ok (.ireturn, 1) := by decide +kernel
set_option maxRecDepth 20000 in
theorem ggX12_choose_X12_isNode : GoodIn wsX12_choose wsX12_isNode := goodIn_r _ [7, 2, 8, 9, 6, 10, 25, 26, 27, 28, 29, 30, 31, 32, 33, 34, 35, 36, 37, 38, 39, 40, 41, 42, 43, 44, 45, 46, 47, 48, 49, 50, 51, 52, 53, 54, 55, 56, 57, 58, 59, 60, 61, 62, 63, 64, 65, 66, 67, 68, 69, 70, 71, 72, 73, 74, 75, 76, 77, 78, 79, 80, 81, 82, 83, 84, 85, 86, 87, 88, 89, 90, 91, 92, 93, 94, 95, 96, 97, 98, 99, 100, 101, 102, 103, 104, 105, 106, 107, 108, 109, 110, 111, 112, 113, 114, 115, 116, 117, 118, 119, 120, 121, 122, 123, 124, 125, 126, 127, 128, 129, 130, 131, 132, 133] rfl (by decide +kernel)
set_option maxRecDepth 20000 in
theorem gX12_choose_X12_isNode : GoodIn wsX12_choose (wsV RX12 330 RX12 yX12_isNode wsX12_isNode) := goodIn_app (goodIn_of _ (by decide +kernel)) ggX12_choose_X12_isNode
set_option maxRecDepth 20000 in
theorem ggX12_choose_X12_goes : GoodIn wsX12_choose wsX12_goes := goodIn_r _ [14, 15, 25, 26, 27, 28, 29, 30, 31, 32, 33, 34, 35, 36, 37, 38, 39, 40, 41, 42, 43, 44, 45, 46, 47, 48, 49, 50, 51, 52, 53, 54, 55, 56, 57, 58, 59, 60, 61, 62, 63, 64, 65, 66, 67, 68, 69, 70, 71, 72, 73, 74, 75, 76, 77, 78, 79, 80, 81, 82, 83, 84, 85, 86, 87, 88, 89, 90, 91, 92, 93, 94, 95, 96, 97, 98, 99, 100, 101, 102, 103, 104, 105, 106, 107, 108, 109, 110, 111, 112, 113, 114, 115, 116, 117, 118, 119, 120, 121, 122, 123, 124, 125, 126, 127, 128, 129, 130, 131, 132, 133] rfl (by decide +kernel)
set_option maxRecDepth 20000 in
theorem gX12_choose_X12_goes : GoodIn wsX12_choose (wsV RX12 298 RX12 yX12_goes wsX12_goes) := goodIn_app (goodIn_of _ (by decide +kernel)) ggX12_choose_X12_goes
theorem dX12_choose_0 : decode cX12_choose 0 = .ok (.aload_n 0, 1) := by decide +kernel
theorem dX12_choose_1 : decode cX12_choose 1 = .ok (.iload_n 1, 1) := by decide +kernel
theorem dX12_choose_2 : decode cX12_choose 2 = .ok (.invokevirtual 330, 3) := by decide +kernel
theorem dX12_choose_5 : decode cX12_choose 5 = .ok (.ifCond .eq 23, 3) := by decide +kernel
theorem dX12_choose_8 : decode cX12_choose 8 = .ok (.aload_n 0, 1) := by decide +kernel
theorem dX12_choose_9 : decode cX12_choose 9 = .ok (.iload_n 2, 1) := by decide +kernel
theorem dX12_choose_10 : decode cX12_choose 10 = .ok (.invokevirtual 330, 3) := by decide +kernel
theorem dX12_choose_13 : decode cX12_choose 13 = .ok (.ifCond .eq 15, 3) := by decide +kernel
theorem dX12_choose_16 : decode cX12_choose 16 = .ok (.aload_n 0, 1) := by decide +kernel
theorem dX12_choose_17 : decode cX12_choose 17 = .ok (.iload_n 3, 1) := by decide +kernel
theorem dX12_choose_18 : decode cX12_choose 18 = .ok (.invokevirtual 330, 3) := by decide +kernel
theorem dX12_choose_21 : decode cX12_choose 21 = .ok (.ifCond .eq 7, 3) := by decide +kernel
theorem dX12_choose_24 : decode cX12_choose 24 = .ok (.iconst 1, 1) := by decide +kernel
theorem dX12_choose_25 : decode cX12_choose 25 = .ok (.goto 4, 3) := by decide +kernel
theorem dX12_choose_28 : decode cX12_choose 28 = .ok (.iconst 0, 1) := by decide +kernel
theorem dX12_choose_29 : decode cX12_choose 29 = .ok (.istore 4, 2) := by decide +kernel
theorem dX12_choose_31 : decode cX12_choose 31 = .ok (.iload 4, 2) := by decide +kernel
theorem dX12_choose_33 : decode cX12_choose 33 = .ok (.ifCond .eq 28, 3) := by decide +kernel
theorem dX12_choose_36 : decode cX12_choose 36 = .ok (.iconst 1, 1) := by decide +kernel
theorem dX12_choose_37 : decode cX12_choose 37 = .ok (.aload_n 0, 1) := by decide +kernel
theorem dX12_choose_38 : decode cX12_choose 38 = .ok (.getfield 67, 3) := by decide +kernel
theorem dX12_choose_41 : decode cX12_choose 41 = .ok (.iload_n 1, 1) := by decide +kernel
theorem dX12_choose_42 : decode cX12_choose 42 = .ok (.iaload, 1) := by decide +kernel
theorem dX12_choose_43 : decode cX12_choose 43 = .ok (.iadd, 1) := by decide +kernel
theorem dX12_choose_44 : decode cX12_choose 44 = .ok (.aload_n 0, 1) := by decide +kernel
theorem dX12_choose_45 : decode cX12_choose 45 = .ok (.getfield 67, 3) := by decide +kernel
theorem dX12_choose_48 : decode cX12_choose 48 = .ok (.iload_n 2, 1) := by decide +kernel
theorem dX12_choose_49 : decode cX12_choose 49 = .ok (.iaload, 1) := by decide +kernel
theorem dX12_choose_50 : decode cX12_choose 50 = .ok (.iadd, 1) := by decide +kernel
theorem dX12_choose_51 : decode cX12_choose 51 = .ok (.aload_n 0, 1) := by decide +kernel
theorem dX12_choose_52 : decode cX12_choose 52 = .ok (.getfield 67, 3) := by decide +kernel
theorem dX12_choose_55 : decode cX12_choose 55 = .ok (.iload_n 3, 1) := by decide +kernel
theorem dX12_choose_56 : decode cX12_choose 56 = .ok (.iaload, 1) := by decide +kernel
theorem dX12_choose_57 : decode cX12_choose 57 = .ok (.iadd, 1) := by decide +kernel
theorem dX12_choose_58 : decode cX12_choose 58 = .ok (.goto 4, 3) := by decide +kernel
theorem dX12_choose_61 : decode cX12_choose 61 = .ok (.iconst 1, 1) := by decide +kernel
theorem dX12_choose_62 : decode cX12_choose 62 = .ok (.istore 5, 2) := by decide +kernel
theorem dX12_choose_64 : decode cX12_choose 64 = .ok (.aload_n 0, 1) := by decide +kernel
theorem dX12_choose_65 : decode cX12_choose 65 = .ok (.iload 4, 2) := by decide +kernel
theorem dX12_choose_67 : decode cX12_choose 67 = .ok (.aload_n 0, 1) := by decide +kernel
theorem dX12_choose_68 : decode cX12_choose 68 = .ok (.getfield 288, 3) := by decide +kernel
theorem dX12_choose_71 : decode cX12_choose 71 = .ok (.bipush 40, 2) := by decide +kernel
theorem dX12_choose_73 : decode cX12_choose 73 = .ok (.if_icmp .ge 14, 3) := by decide +kernel
theorem dX12_choose_76 : decode cX12_choose 76 = .ok (.iload 5, 2) := by decide +kernel
theorem dX12_choose_78 : decode cX12_choose 78 = .ok (.bipush 24, 2) := by decide +kernel
theorem dX12_choose_80 : decode cX12_choose 80 = .ok (.if_icmp .gt 7, 3) := by decide +kernel
theorem dX12_choose_83 : decode cX12_choose 83 = .ok (.iconst 1, 1) := by decide +kernel
theorem dX12_choose_84 : decode cX12_choose 84 = .ok (.goto 4, 3) := by decide +kernel
theorem dX12_choose_87 : decode cX12_choose 87 = .ok (.iconst 0, 1) := by decide +kernel
theorem dX12_choose_88 : decode cX12_choose 88 = .ok (.iconst 1, 1) := by decide +kernel
theorem dX12_choose_89 : decode cX12_choose 89 = .ok (.invokevirtual 298, 3) := by decide +kernel
theorem dX12_choose_92 : decode cX12_choose 92 = .ok (.ifCond .eq 17, 3) := by decide +kernel
theorem dX12_choose_95 : decode cX12_choose 95 = .ok (.aload_n 0, 1) := by decide +kernel
theorem dX12_choose_96 : decode cX12_choose 96 = .ok (.iconst 4, 1) := by decide +kernel
theorem dX12_choose_97 : decode cX12_choose 97 = .ok (.iload_n 1, 1) := by decide +kernel
theorem dX12_choose_98 : decode cX12_choose 98 = .ok (.iload_n 2, 1) := by decide +kernel
theorem dX12_choose_99 : decode cX12_choose 99 = .ok (.iload_n 3, 1) := by decide +kernel
theorem dX12_choose_100 : decode cX12_choose 100 = .ok (.iload 5, 2) := by decide +kernel
theorem dX12_choose_102 : decode cX12_choose 102 = .ok (.iconst 0, 1) := by decide +kernel
theorem dX12_choose_103 : decode cX12_choose 103 = .ok (.invokevirtual 326, 3) := by decide +kernel
theorem dX12_choose_106 : decode cX12_choose 106 = .ok (.goto 4, 3) := by decide +kernel
theorem dX12_choose_109 : decode cX12_choose 109 = .ok (.iconst 0, 1) := by decide +kernel
theorem dX12_choose_110 : decode cX12_choose 110 = .ok (.ireturn, 1) := by decide +kernel
set_option maxRecDepth 20000 in
theorem ggX12_rename_X12_isNode : GoodIn wsX12_rename wsX12_isNode := goodIn_r _ [7, 2, 8, 9, 6, 10, 28, 29, 30, 31, 32, 33, 34, 35, 36, 37, 38, 39, 40, 41, 42, 43, 44, 45, 46, 47, 48, 49, 50, 51, 52, 53, 54, 55, 56, 57, 58, 59, 60, 61, 62, 63, 64, 65, 66, 67, 68, 69, 70, 71, 72, 73, 74, 75, 76, 77, 78, 79, 80, 81, 82, 83, 84, 85, 86, 87, 88, 89, 90, 91, 92, 93, 94, 95, 96, 97, 98, 99, 100, 101, 102, 103, 104, 105, 106, 107, 108, 109, 110, 111, 112, 113, 114, 115, 116, 117, 118, 119, 120, 121, 122, 123, 124, 125, 126, 127, 128, 129, 130, 131, 132, 133, 134, 135, 136] rfl (by decide +kernel)
set_option maxRecDepth 20000 in
theorem gX12_rename_X12_isNode : GoodIn wsX12_rename (wsV RX12 330 RX12 yX12_isNode wsX12_isNode) := goodIn_app (goodIn_of _ (by decide +kernel)) ggX12_rename_X12_isNode
set_option maxRecDepth 20000 in
theorem ggX12_rename_X12_isValue : GoodIn wsX12_rename wsX12_isValue := goodIn_r _ [13, 8, 9, 6, 10] rfl (by decide +kernel)
set_option maxRecDepth 20000 in
theorem gX12_rename_X12_isValue : GoodIn wsX12_rename (va_wsS RX12 302 yX12_isValue wsX12_isValue) := goodIn_app (goodIn_of _ (by decide +kernel)) ggX12_rename_X12_isValue
set_option maxRecDepth 20000 in
theorem ggX12_rename_X12_goes : GoodIn wsX12_rename wsX12_goes := goodIn_r _ [17, 18, 28, 29, 30, 31, 32, 33, 34, 35, 36, 37, 38, 39, 40, 41, 42, 43, 44, 45, 46, 47, 48, 49, 50, 51, 52, 53, 54, 55, 56, 57, 58, 59, 60, 61, 62, 63, 64, 65, 66, 67, 68, 69, 70, 71, 72, 73, 74, 75, 76, 77, 78, 79, 80, 81, 82, 83, 84, 85, 86, 87, 88, 89, 90, 91, 92, 93, 94, 95, 96, 97, 98, 99, 100, 101, 102, 103, 104, 105, 106, 107, 108, 109, 110, 111, 112, 113, 114, 115, 116, 117, 118, 119, 120, 121, 122, 123, 124, 125, 126, 127, 128, 129, 130, 131, 132, 133, 134, 135, 136] rfl (by decide +kernel)
set_option maxRecDepth 20000 in
theorem gX12_rename_X12_goes : GoodIn wsX12_rename (wsV RX12 298 RX12 yX12_goes wsX12_goes) := goodIn_app (goodIn_of _ (by decide +kernel)) ggX12_rename_X12_goes
theorem dX12_rename_0 : decode cX12_rename 0 = .ok (.aload_n 0, 1) := by decide +kernel
theorem dX12_rename_1 : decode cX12_rename 1 = .ok (.iload_n 1, 1) := by decide +kernel
theorem dX12_rename_2 : decode cX12_rename 2 = .ok (.invokevirtual 330, 3) := by decide +kernel
theorem dX12_rename_5 : decode cX12_rename 5 = .ok (.istore 4, 2) := by decide +kernel
theorem dX12_rename_7 : decode cX12_rename 7 = .ok (.iload_n 2, 1) := by decide +kernel
theorem dX12_rename_8 : decode cX12_rename 8 = .ok (.invokestatic 302, 3) := by decide +kernel
theorem dX12_rename_11 : decode cX12_rename 11 = .ok (.ifCond .eq 24, 3) := by decide +kernel
theorem dX12_rename_14 : decode cX12_rename 14 = .ok (.iload_n 3, 1) := by decide +kernel
theorem dX12_rename_15 : decode cX12_rename 15 = .ok (.iconst (-1), 1) := by decide +kernel
theorem dX12_rename_16 : decode cX12_rename 16 = .ok (.if_icmp .eq 10, 3) := by decide +kernel
theorem dX12_rename_19 : decode cX12_rename 19 = .ok (.iload_n 3, 1) := by decide +kernel
theorem dX12_rename_20 : decode cX12_rename 20 = .ok (.invokestatic 302, 3) := by decide +kernel
theorem dX12_rename_23 : decode cX12_rename 23 = .ok (.ifCond .eq 12, 3) := by decide +kernel
theorem dX12_rename_26 : decode cX12_rename 26 = .ok (.iload_n 2, 1) := by decide +kernel
theorem dX12_rename_27 : decode cX12_rename 27 = .ok (.iload_n 3, 1) := by decide +kernel
theorem dX12_rename_28 : decode cX12_rename 28 = .ok (.if_icmp .eq 7, 3) := by decide +kernel
theorem dX12_rename_31 : decode cX12_rename 31 = .ok (.iconst 1, 1) := by decide +kernel
theorem dX12_rename_32 : decode cX12_rename 32 = .ok (.goto 4, 3) := by decide +kernel
theorem dX12_rename_35 : decode cX12_rename 35 = .ok (.iconst 0, 1) := by decide +kernel
theorem dX12_rename_36 : decode cX12_rename 36 = .ok (.istore 5, 2) := by decide +kernel
theorem dX12_rename_38 : decode cX12_rename 38 = .ok (.iload 4, 2) := by decide +kernel
theorem dX12_rename_40 : decode cX12_rename 40 = .ok (.ifCond .eq 14, 3) := by decide +kernel
theorem dX12_rename_43 : decode cX12_rename 43 = .ok (.iconst 1, 1) := by decide +kernel
theorem dX12_rename_44 : decode cX12_rename 44 = .ok (.aload_n 0, 1) := by decide +kernel
theorem dX12_rename_45 : decode cX12_rename 45 = .ok (.getfield 67, 3) := by decide +kernel
theorem dX12_rename_48 : decode cX12_rename 48 = .ok (.iload_n 1, 1) := by decide +kernel
theorem dX12_rename_49 : decode cX12_rename 49 = .ok (.iaload, 1) := by decide +kernel
theorem dX12_rename_50 : decode cX12_rename 50 = .ok (.iadd, 1) := by decide +kernel
theorem dX12_rename_51 : decode cX12_rename 51 = .ok (.goto 4, 3) := by decide +kernel
theorem dX12_rename_54 : decode cX12_rename 54 = .ok (.iconst 1, 1) := by decide +kernel
theorem dX12_rename_55 : decode cX12_rename 55 = .ok (.istore 6, 2) := by decide +kernel
theorem dX12_rename_57 : decode cX12_rename 57 = .ok (.aload_n 0, 1) := by decide +kernel
theorem dX12_rename_58 : decode cX12_rename 58 = .ok (.iload 4, 2) := by decide +kernel
theorem dX12_rename_60 : decode cX12_rename 60 = .ok (.iload 5, 2) := by decide +kernel
theorem dX12_rename_62 : decode cX12_rename 62 = .ok (.aload_n 0, 1) := by decide +kernel
theorem dX12_rename_63 : decode cX12_rename 63 = .ok (.getfield 288, 3) := by decide +kernel
theorem dX12_rename_66 : decode cX12_rename 66 = .ok (.bipush 40, 2) := by decide +kernel
theorem dX12_rename_68 : decode cX12_rename 68 = .ok (.if_icmp .ge 14, 3) := by decide +kernel
theorem dX12_rename_71 : decode cX12_rename 71 = .ok (.iload 6, 2) := by decide +kernel
theorem dX12_rename_73 : decode cX12_rename 73 = .ok (.bipush 24, 2) := by decide +kernel
theorem dX12_rename_75 : decode cX12_rename 75 = .ok (.if_icmp .gt 7, 3) := by decide +kernel
theorem dX12_rename_78 : decode cX12_rename 78 = .ok (.iconst 1, 1) := by decide +kernel
theorem dX12_rename_79 : decode cX12_rename 79 = .ok (.goto 4, 3) := by decide +kernel
theorem dX12_rename_82 : decode cX12_rename 82 = .ok (.iconst 0, 1) := by decide +kernel
theorem dX12_rename_83 : decode cX12_rename 83 = .ok (.invokevirtual 298, 3) := by decide +kernel
theorem dX12_rename_86 : decode cX12_rename 86 = .ok (.ifCond .ne 5, 3) := by decide +kernel
theorem dX12_rename_89 : decode cX12_rename 89 = .ok (.iconst 0, 1) := by decide +kernel
theorem dX12_rename_90 : decode cX12_rename 90 = .ok (.ireturn, 1) := by decide +kernel
theorem dX12_rename_91 : decode cX12_rename 91 = .ok (.aload_n 0, 1) := by decide +kernel
theorem dX12_rename_92 : decode cX12_rename 92 = .ok (.iload_n 3, 1) := by decide +kernel
theorem dX12_rename_93 : decode cX12_rename 93 = .ok (.iconst (-1), 1) := by decide +kernel
theorem dX12_rename_94 : decode cX12_rename 94 = .ok (.if_icmp .ne 8, 3) := by decide +kernel
theorem dX12_rename_97 : decode cX12_rename 97 = .ok (.bipush 6, 2) := by decide +kernel
theorem dX12_rename_99 : decode cX12_rename 99 = .ok (.goto 4, 3) := by decide +kernel
theorem dX12_rename_102 : decode cX12_rename 102 = .ok (.iconst 5, 1) := by decide +kernel
theorem dX12_rename_103 : decode cX12_rename 103 = .ok (.iload_n 1, 1) := by decide +kernel
theorem dX12_rename_104 : decode cX12_rename 104 = .ok (.iload_n 2, 1) := by decide +kernel
theorem dX12_rename_105 : decode cX12_rename 105 = .ok (.iload_n 3, 1) := by decide +kernel
theorem dX12_rename_106 : decode cX12_rename 106 = .ok (.iload 6, 2) := by decide +kernel
theorem dX12_rename_108 : decode cX12_rename 108 = .ok (.iconst 0, 1) := by decide +kernel
theorem dX12_rename_109 : decode cX12_rename 109 = .ok (.invokevirtual 326, 3) := by decide +kernel
theorem dX12_rename_112 : decode cX12_rename 112 = .ok (.ireturn, 1) := by decide +kernel
set_option maxRecDepth 20000 in
theorem ggX12_error_X12_isNode : GoodIn wsX12_error wsX12_isNode := goodIn_r _ [6, 7, 8, 9, 5, 10, 242, 243, 244, 245, 246, 247, 248, 249, 250, 251, 252, 253, 254, 255, 256, 257, 258, 259, 260, 261, 262, 263, 264, 265, 266, 267, 268, 269, 270, 271, 272, 273, 274, 275, 276, 277, 278, 279, 280, 281, 282, 283, 284, 285, 286, 287, 288, 289, 290, 291, 292, 293, 294, 295, 296, 297, 298, 299, 300, 301, 302, 303, 304, 305, 306, 307, 308, 309, 310, 311, 312, 313, 314, 315, 316, 317, 318, 319, 320, 321, 322, 323, 324, 325, 326, 327, 328, 329, 330, 331, 332, 333, 334, 335, 336, 337, 338, 339, 340, 341, 342, 343, 344, 345, 346, 347, 348, 349, 350] rfl (by decide +kernel)
set_option maxRecDepth 20000 in
theorem gX12_error_X12_isNode : GoodIn wsX12_error (wsV RX12 330 RX12 yX12_isNode wsX12_isNode) := goodIn_app (goodIn_of _ (by decide +kernel)) ggX12_error_X12_isNode
set_option maxRecDepth 20000 in
theorem ggX12_error_X12_goes : GoodIn wsX12_error wsX12_goes := goodIn_r _ [14, 15, 242, 243, 244, 245, 246, 247, 248, 249, 250, 251, 252, 253, 254, 255, 256, 257, 258, 259, 260, 261, 262, 263, 264, 265, 266, 267, 268, 269, 270, 271, 272, 273, 274, 275, 276, 277, 278, 279, 280, 281, 282, 283, 284, 285, 286, 287, 288, 289, 290, 291, 292, 293, 294, 295, 296, 297, 298, 299, 300, 301, 302, 303, 304, 305, 306, 307, 308, 309, 310, 311, 312, 313, 314, 315, 316, 317, 318, 319, 320, 321, 322, 323, 324, 325, 326, 327, 328, 329, 330, 331, 332, 333, 334, 335, 336, 337, 338, 339, 340, 341, 342, 343, 344, 345, 346, 347, 348, 349, 350] rfl (by decide +kernel)
set_option maxRecDepth 20000 in
theorem gX12_error_X12_goes : GoodIn wsX12_error (wsV RX12 298 RX12 yX12_goes wsX12_goes) := goodIn_app (goodIn_of _ (by decide +kernel)) ggX12_error_X12_goes
theorem dX12_error_0 : decode cX12_error 0 = .ok (.aload_n 0, 1) := by decide +kernel
theorem dX12_error_1 : decode cX12_error 1 = .ok (.aload_n 0, 1) := by decide +kernel
theorem dX12_error_2 : decode cX12_error 2 = .ok (.iload_n 1, 1) := by decide +kernel
theorem dX12_error_3 : decode cX12_error 3 = .ok (.invokevirtual 330, 3) := by decide +kernel
theorem dX12_error_6 : decode cX12_error 6 = .ok (.iconst 1, 1) := by decide +kernel
theorem dX12_error_7 : decode cX12_error 7 = .ok (.iconst 1, 1) := by decide +kernel
theorem dX12_error_8 : decode cX12_error 8 = .ok (.invokevirtual 298, 3) := by decide +kernel
theorem dX12_error_11 : decode cX12_error 11 = .ok (.ifCond .ne 5, 3) := by decide +kernel
theorem dX12_error_14 : decode cX12_error 14 = .ok (.iconst 0, 1) := by decide +kernel
theorem dX12_error_15 : decode cX12_error 15 = .ok (.ireturn, 1) := by decide +kernel
theorem dX12_error_16 : decode cX12_error 16 = .ok (.aload_n 0, 1) := by decide +kernel
theorem dX12_error_17 : decode cX12_error 17 = .ok (.lconst 1, 1) := by decide +kernel
theorem dX12_error_18 : decode cX12_error 18 = .ok (.iload_n 1, 1) := by decide +kernel
theorem dX12_error_19 : decode cX12_error 19 = .ok (.lshl, 1) := by decide +kernel
theorem dX12_error_20 : decode cX12_error 20 = .ok (.invokevirtual 477, 3) := by decide +kernel
theorem dX12_error_23 : decode cX12_error 23 = .ok (.aload_n 0, 1) := by decide +kernel
theorem dX12_error_24 : decode cX12_error 24 = .ok (.getfield 139, 3) := by decide +kernel
theorem dX12_error_27 : decode cX12_error 27 = .ok (.iload_n 1, 1) := by decide +kernel
theorem dX12_error_28 : decode cX12_error 28 = .ok (.iaload, 1) := by decide +kernel
theorem dX12_error_29 : decode cX12_error 29 = .ok (.ireturn, 1) := by decide +kernel
set_option maxRecDepth 20000 in
theorem ggX12_asks_X12_isNode : GoodIn wsX12_asks wsX12_isNode := goodIn_r _ [5, 6, 7, 8, 4, 9, 246, 247, 248, 249, 250, 251, 252, 253, 254, 255, 256, 257, 258, 259, 260, 261, 262, 263, 264, 265, 266, 267, 268, 269, 270, 271, 272, 273, 274, 275, 276, 277, 278, 279, 280, 281, 282, 283, 284, 285, 286, 287, 288, 289, 290, 291, 292, 293, 294, 295, 296, 297, 298, 299, 300, 301, 302, 303, 304, 305, 306, 307, 308, 309, 310, 311, 312, 313, 314, 315, 316, 317, 318, 319, 320, 321, 322, 323, 324, 325, 326, 327, 328, 329, 330, 331, 332, 333, 334, 335, 336, 337, 338, 339, 340, 341, 342, 343, 344, 345, 346, 347, 348, 349, 350, 351, 352, 353, 354] rfl (by decide +kernel)
set_option maxRecDepth 20000 in
theorem gX12_asks_X12_isNode : GoodIn wsX12_asks (wsV RX12 330 RX12 yX12_isNode wsX12_isNode) := goodIn_app (goodIn_of _ (by decide +kernel)) ggX12_asks_X12_isNode
set_option maxRecDepth 20000 in
theorem ggX12_asks_X12_goes : GoodIn wsX12_asks wsX12_goes := goodIn_r _ [244, 245, 246, 247, 248, 249, 250, 251, 252, 253, 254, 255, 256, 257, 258, 259, 260, 261, 262, 263, 264, 265, 266, 267, 268, 269, 270, 271, 272, 273, 274, 275, 276, 277, 278, 279, 280, 281, 282, 283, 284, 285, 286, 287, 288, 289, 290, 291, 292, 293, 294, 295, 296, 297, 298, 299, 300, 301, 302, 303, 304, 305, 306, 307, 308, 309, 310, 311, 312, 313, 314, 315, 316, 317, 318, 319, 320, 321, 322, 323, 324, 325, 326, 327, 328, 329, 330, 331, 332, 333, 334, 335, 336, 337, 338, 339, 340, 341, 342, 343, 344, 345, 346, 347, 348, 349, 350, 351, 352, 353, 354] rfl (by decide +kernel)
set_option maxRecDepth 20000 in
theorem gX12_asks_X12_goes : GoodIn wsX12_asks (wsV RX12 298 RX12 yX12_goes wsX12_goes) := goodIn_app (goodIn_of _ (by decide +kernel)) ggX12_asks_X12_goes
theorem dX12_asks_0 : decode cX12_asks 0 = .ok (.aload_n 0, 1) := by decide +kernel
theorem dX12_asks_1 : decode cX12_asks 1 = .ok (.iload_n 1, 1) := by decide +kernel
theorem dX12_asks_2 : decode cX12_asks 2 = .ok (.invokevirtual 330, 3) := by decide +kernel
theorem dX12_asks_5 : decode cX12_asks 5 = .ok (.istore_n 3, 1) := by decide +kernel
theorem dX12_asks_6 : decode cX12_asks 6 = .ok (.aload_n 0, 1) := by decide +kernel
theorem dX12_asks_7 : decode cX12_asks 7 = .ok (.iload_n 3, 1) := by decide +kernel
theorem dX12_asks_8 : decode cX12_asks 8 = .ok (.iload_n 2, 1) := by decide +kernel
theorem dX12_asks_9 : decode cX12_asks 9 = .ok (.iload_n 3, 1) := by decide +kernel
theorem dX12_asks_10 : decode cX12_asks 10 = .ok (.ifCond .eq 15, 3) := by decide +kernel
theorem dX12_asks_13 : decode cX12_asks 13 = .ok (.aload_n 0, 1) := by decide +kernel
theorem dX12_asks_14 : decode cX12_asks 14 = .ok (.iload_n 1, 1) := by decide +kernel
theorem dX12_asks_15 : decode cX12_asks 15 = .ok (.invokevirtual 481, 3) := by decide +kernel
theorem dX12_asks_18 : decode cX12_asks 18 = .ok (.ifCond .eq 7, 3) := by decide +kernel
theorem dX12_asks_21 : decode cX12_asks 21 = .ok (.iconst 1, 1) := by decide +kernel
theorem dX12_asks_22 : decode cX12_asks 22 = .ok (.goto 4, 3) := by decide +kernel
theorem dX12_asks_25 : decode cX12_asks 25 = .ok (.iconst 0, 1) := by decide +kernel
theorem dX12_asks_26 : decode cX12_asks 26 = .ok (.invokevirtual 298, 3) := by decide +kernel
theorem dX12_asks_29 : decode cX12_asks 29 = .ok (.ireturn, 1) := by decide +kernel
set_option maxRecDepth 20000 in
theorem ggX12_typeOf_X12_isName : GoodIn wsX12_typeOf wsX12_isName := goodIn_r _ [5, 6, 7, 4, 8] rfl (by decide +kernel)
set_option maxRecDepth 20000 in
theorem gX12_typeOf_X12_isName : GoodIn wsX12_typeOf (va_wsS RX12 291 yX12_isName wsX12_isName) := goodIn_app (goodIn_of _ (by decide +kernel)) ggX12_typeOf_X12_isName
set_option maxRecDepth 20000 in
theorem ggX12_typeOf_X12_asks : GoodIn wsX12_typeOf wsX12_asks := goodIn_r _ [12, 13, 14, 15, 4, 16, 17, 6, 7, 8, 18, 19, 20, 21, 22, 23, 24, 25, 26, 27, 28, 29, 30, 31, 32, 33, 34, 35, 36, 37, 38, 39, 40, 41, 42, 1, 43, 44, 45, 46, 47, 48, 49, 50, 51, 52, 53, 54, 55, 56, 57, 58, 59, 60, 61, 62, 63, 64, 65, 66, 67, 68, 69, 70, 71, 72, 73, 74, 75, 76, 77, 78, 79, 80, 81, 82, 83, 84, 85, 86, 87, 88, 89, 90, 91, 92, 93, 94, 95, 96, 97, 98, 99, 100, 101, 102, 103, 104, 105, 106, 107, 108, 109, 110, 111, 112, 113, 114, 115, 116, 117, 118, 119, 120, 121, 122, 123, 124, 125, 126, 127, 128, 129, 130, 131, 132, 133, 134, 135, 136, 137, 138, 139, 140, 141, 142, 143, 144, 145, 146, 147, 148, 149, 150, 151, 152, 153, 154, 155, 156, 157, 158, 159, 160, 161, 162, 163, 164, 165, 166, 167, 168, 169, 170, 171, 172, 173, 174, 175, 176, 177, 178, 179, 180, 181, 182, 183, 184, 185, 186, 187, 188, 189, 190, 191, 192, 193, 194, 195, 196, 197, 198, 199, 200, 201, 202, 203, 204, 205, 206, 207, 208, 209, 210, 211, 212, 213, 214, 215, 216, 217, 218, 219, 220, 221, 222, 223, 224, 225, 226, 227, 228, 229, 230, 231, 232, 233, 234, 235, 236, 237, 238, 239, 240, 241, 242, 243, 244, 245, 246, 247, 248, 249, 250, 251, 252, 253, 254, 255, 256, 257, 258, 259, 260, 261, 262, 263, 264, 265, 266, 267, 268, 269, 270, 271, 272, 273, 274, 275, 276, 277, 278, 279, 280, 281, 282, 283, 284, 285, 286, 287, 288, 289, 290, 291, 292, 293, 294, 295, 296, 297, 298, 299, 300, 301, 302, 303, 304, 305, 306, 307, 308, 309, 310, 311, 312, 313, 314, 315, 316, 317, 318, 319, 320, 321, 322, 323, 324, 325, 326, 327, 328, 329, 330, 331, 332, 333, 334, 335, 336, 337, 338, 339, 340, 341, 342, 343, 344, 345, 346, 347, 348, 349, 350, 351, 352, 353, 354, 355, 356, 357, 358, 359, 360, 361] rfl (by decide +kernel)
set_option maxRecDepth 20000 in
theorem gX12_typeOf_X12_asks : GoodIn wsX12_typeOf (wsV RX12 484 RX12 yX12_asks wsX12_asks) := goodIn_app (goodIn_of _ (by decide +kernel)) ggX12_typeOf_X12_asks
theorem dX12_typeOf_0 : decode cX12_typeOf 0 = .ok (.aload_n 0, 1) := by decide +kernel
theorem dX12_typeOf_1 : decode cX12_typeOf 1 = .ok (.iload_n 1, 1) := by decide +kernel
theorem dX12_typeOf_2 : decode cX12_typeOf 2 = .ok (.iload_n 2, 1) := by decide +kernel
theorem dX12_typeOf_3 : decode cX12_typeOf 3 = .ok (.invokestatic 291, 3) := by decide +kernel
theorem dX12_typeOf_6 : decode cX12_typeOf 6 = .ok (.invokevirtual 484, 3) := by decide +kernel
theorem dX12_typeOf_9 : decode cX12_typeOf 9 = .ok (.ifCond .ne 5, 3) := by decide +kernel
theorem dX12_typeOf_12 : decode cX12_typeOf 12 = .ok (.iconst 0, 1) := by decide +kernel
theorem dX12_typeOf_13 : decode cX12_typeOf 13 = .ok (.ireturn, 1) := by decide +kernel
theorem dX12_typeOf_14 : decode cX12_typeOf 14 = .ok (.aload_n 0, 1) := by decide +kernel
theorem dX12_typeOf_15 : decode cX12_typeOf 15 = .ok (.iload_n 1, 1) := by decide +kernel
theorem dX12_typeOf_16 : decode cX12_typeOf 16 = .ok (.iload_n 2, 1) := by decide +kernel
theorem dX12_typeOf_17 : decode cX12_typeOf 17 = .ok (.invokevirtual 413, 3) := by decide +kernel
theorem dX12_typeOf_20 : decode cX12_typeOf 20 = .ok (.istore_n 3, 1) := by decide +kernel
theorem dX12_typeOf_21 : decode cX12_typeOf 21 = .ok (.iload_n 3, 1) := by decide +kernel
theorem dX12_typeOf_22 : decode cX12_typeOf 22 = .ok (.bipush (-2), 2) := by decide +kernel
theorem dX12_typeOf_24 : decode cX12_typeOf 24 = .ok (.if_icmp .ne 7, 3) := by decide +kernel
theorem dX12_typeOf_27 : decode cX12_typeOf 27 = .ok (.iconst 0, 1) := by decide +kernel
theorem dX12_typeOf_28 : decode cX12_typeOf 28 = .ok (.goto 27, 3) := by decide +kernel
theorem dX12_typeOf_31 : decode cX12_typeOf 31 = .ok (.iload_n 3, 1) := by decide +kernel
theorem dX12_typeOf_32 : decode cX12_typeOf 32 = .ok (.iconst (-1), 1) := by decide +kernel
theorem dX12_typeOf_33 : decode cX12_typeOf 33 = .ok (.if_icmp .ne 7, 3) := by decide +kernel
theorem dX12_typeOf_36 : decode cX12_typeOf 36 = .ok (.iconst 1, 1) := by decide +kernel
theorem dX12_typeOf_37 : decode cX12_typeOf 37 = .ok (.goto 18, 3) := by decide +kernel
theorem dX12_typeOf_40 : decode cX12_typeOf 40 = .ok (.aload_n 0, 1) := by decide +kernel
theorem dX12_typeOf_41 : decode cX12_typeOf 41 = .ok (.getfield 75, 3) := by decide +kernel
theorem dX12_typeOf_44 : decode cX12_typeOf 44 = .ok (.iload_n 3, 1) := by decide +kernel
theorem dX12_typeOf_45 : decode cX12_typeOf 45 = .ok (.iaload, 1) := by decide +kernel
theorem dX12_typeOf_46 : decode cX12_typeOf 46 = .ok (.iconst 2, 1) := by decide +kernel
theorem dX12_typeOf_47 : decode cX12_typeOf 47 = .ok (.if_icmp .ne 7, 3) := by decide +kernel
theorem dX12_typeOf_50 : decode cX12_typeOf 50 = .ok (.iconst 3, 1) := by decide +kernel
theorem dX12_typeOf_51 : decode cX12_typeOf 51 = .ok (.goto 4, 3) := by decide +kernel
theorem dX12_typeOf_54 : decode cX12_typeOf 54 = .ok (.iconst 2, 1) := by decide +kernel
theorem dX12_typeOf_55 : decode cX12_typeOf 55 = .ok (.ireturn, 1) := by decide +kernel
set_option maxRecDepth 20000 in
theorem ggX12_isSameType_X12_isNode : GoodIn wsX12_isSameType wsX12_isNode := goodIn_r _ [6, 7, 8, 9, 5, 10, 245, 246, 247, 248, 249, 250, 251, 252, 253, 254, 255, 256, 257, 258, 259, 260, 261, 262, 263, 264, 265, 266, 267, 268, 269, 270, 271, 272, 273, 274, 275, 276, 277, 278, 279, 280, 281, 282, 283, 284, 285, 286, 287, 288, 289, 290, 291, 292, 293, 294, 295, 296, 297, 298, 299, 300, 301, 302, 303, 304, 305, 306, 307, 308, 309, 310, 311, 312, 313, 314, 315, 316, 317, 318, 319, 320, 321, 322, 323, 324, 325, 326, 327, 328, 329, 330, 331, 332, 333, 334, 335, 336, 337, 338, 339, 340, 341, 342, 343, 344, 345, 346, 347, 348, 349, 350, 351, 352, 353] rfl (by decide +kernel)
set_option maxRecDepth 20000 in
theorem gX12_isSameType_X12_isNode : GoodIn wsX12_isSameType (wsV RX12 330 RX12 yX12_isNode wsX12_isNode) := goodIn_app (goodIn_of _ (by decide +kernel)) ggX12_isSameType_X12_isNode
set_option maxRecDepth 20000 in
theorem ggX12_isSameType_X12_isName : GoodIn wsX12_isSameType wsX12_isName := goodIn_r _ [239, 8, 9, 5, 10] rfl (by decide +kernel)
set_option maxRecDepth 20000 in
theorem gX12_isSameType_X12_isName : GoodIn wsX12_isSameType (va_wsS RX12 291 yX12_isName wsX12_isName) := goodIn_app (goodIn_of _ (by decide +kernel)) ggX12_isSameType_X12_isName
set_option maxRecDepth 20000 in
theorem ggX12_isSameType_X12_goes : GoodIn wsX12_isSameType wsX12_goes := goodIn_r _ [243, 244, 245, 246, 247, 248, 249, 250, 251, 252, 253, 254, 255, 256, 257, 258, 259, 260, 261, 262, 263, 264, 265, 266, 267, 268, 269, 270, 271, 272, 273, 274, 275, 276, 277, 278, 279, 280, 281, 282, 283, 284, 285, 286, 287, 288, 289, 290, 291, 292, 293, 294, 295, 296, 297, 298, 299, 300, 301, 302, 303, 304, 305, 306, 307, 308, 309, 310, 311, 312, 313, 314, 315, 316, 317, 318, 319, 320, 321, 322, 323, 324, 325, 326, 327, 328, 329, 330, 331, 332, 333, 334, 335, 336, 337, 338, 339, 340, 341, 342, 343, 344, 345, 346, 347, 348, 349, 350, 351, 352, 353] rfl (by decide +kernel)
set_option maxRecDepth 20000 in
theorem gX12_isSameType_X12_goes : GoodIn wsX12_isSameType (wsV RX12 298 RX12 yX12_goes wsX12_goes) := goodIn_app (goodIn_of _ (by decide +kernel)) ggX12_isSameType_X12_goes
theorem dX12_isSameType_0 : decode cX12_isSameType 0 = .ok (.aload_n 0, 1) := by decide +kernel
theorem dX12_isSameType_1 : decode cX12_isSameType 1 = .ok (.iload_n 1, 1) := by decide +kernel
theorem dX12_isSameType_2 : decode cX12_isSameType 2 = .ok (.invokevirtual 330, 3) := by decide +kernel
theorem dX12_isSameType_5 : decode cX12_isSameType 5 = .ok (.ifCond .eq 15, 3) := by decide +kernel
theorem dX12_isSameType_8 : decode cX12_isSameType 8 = .ok (.aload_n 0, 1) := by decide +kernel
theorem dX12_isSameType_9 : decode cX12_isSameType 9 = .ok (.iload_n 3, 1) := by decide +kernel
theorem dX12_isSameType_10 : decode cX12_isSameType 10 = .ok (.invokevirtual 330, 3) := by decide +kernel
theorem dX12_isSameType_13 : decode cX12_isSameType 13 = .ok (.ifCond .eq 7, 3) := by decide +kernel
theorem dX12_isSameType_16 : decode cX12_isSameType 16 = .ok (.iconst 1, 1) := by decide +kernel
theorem dX12_isSameType_17 : decode cX12_isSameType 17 = .ok (.goto 4, 3) := by decide +kernel
theorem dX12_isSameType_20 : decode cX12_isSameType 20 = .ok (.iconst 0, 1) := by decide +kernel
theorem dX12_isSameType_21 : decode cX12_isSameType 21 = .ok (.istore 5, 2) := by decide +kernel
theorem dX12_isSameType_23 : decode cX12_isSameType 23 = .ok (.iload 5, 2) := by decide +kernel
theorem dX12_isSameType_25 : decode cX12_isSameType 25 = .ok (.ifCond .eq 14, 3) := by decide +kernel
theorem dX12_isSameType_28 : decode cX12_isSameType 28 = .ok (.aload_n 0, 1) := by decide +kernel
theorem dX12_isSameType_29 : decode cX12_isSameType 29 = .ok (.lconst 1, 1) := by decide +kernel
theorem dX12_isSameType_30 : decode cX12_isSameType 30 = .ok (.iload_n 1, 1) := by decide +kernel
theorem dX12_isSameType_31 : decode cX12_isSameType 31 = .ok (.lshl, 1) := by decide +kernel
theorem dX12_isSameType_32 : decode cX12_isSameType 32 = .ok (.lconst 1, 1) := by decide +kernel
theorem dX12_isSameType_33 : decode cX12_isSameType 33 = .ok (.iload_n 3, 1) := by decide +kernel
theorem dX12_isSameType_34 : decode cX12_isSameType 34 = .ok (.lshl, 1) := by decide +kernel
