theorem dX10_init_23 : decode cX10_init 23 = .ok (.newarray .int, 2) := by decide +kernel
theorem dX10_init_25 : decode cX10_init 25 = .ok (.putfield 18, 3) := by decide +kernel
theorem dX10_init_28 : decode cX10_init 28 = .ok (.aload_n 0, 1) := by decide +kernel
theorem dX10_init_29 : decode cX10_init 29 = .ok (.bipush 10, 2) := by decide +kernel
theorem dX10_init_31 : decode cX10_init 31 = .ok (.newarray .int, 2) := by decide +kernel
theorem dX10_init_33 : decode cX10_init 33 = .ok (.putfield 21, 3) := by decide +kernel
theorem dX10_init_36 : decode cX10_init 36 = .ok (.aload_n 0, 1) := by decide +kernel
theorem dX10_init_37 : decode cX10_init 37 = .ok (.getfield 9, 3) := by decide +kernel
theorem dX10_init_40 : decode cX10_init 40 = .ok (.bipush (-2), 2) := by decide +kernel
theorem dX10_init_42 : decode cX10_init 42 = .ok (.invokestatic 24, 3) := by decide +kernel
theorem dX10_init_45 : decode cX10_init 45 = .ok (.aload_n 0, 1) := by decide +kernel
theorem dX10_init_46 : decode cX10_init 46 = .ok (.getfield 15, 3) := by decide +kernel
theorem dX10_init_49 : decode cX10_init 49 = .ok (.bipush (-2), 2) := by decide +kernel
theorem dX10_init_51 : decode cX10_init 51 = .ok (.invokestatic 24, 3) := by decide +kernel
theorem dX10_init_54 : decode cX10_init 54 = .ok (.return_, 1) := by decide +kernel
set_option maxRecDepth 20000 in
theorem ggX11_init_X5_init : GoodIn wsX11_init wsX5_init := goodIn_r _ [23, 24, 2, 3, 25, 26, 27, 28, 29, 30, 31, 32, 33, 34, 35, 36, 37, 38, 39, 40, 41, 42, 43, 44, 45, 46, 47, 48, 49, 50, 51, 52, 53, 54, 55, 56, 57, 58, 59, 60, 61, 62, 63, 64, 65, 66, 67, 68, 69, 70, 71, 72, 73, 164, 165, 166, 167, 168, 169, 170, 171, 172, 173, 174, 175, 176, 177, 178, 179, 180, 181, 216, 217, 218, 219, 220, 221, 222] rfl (by decide +kernel)
set_option maxRecDepth 20000 in
theorem gX11_init_X5_init : GoodIn wsX11_init (wsX5_init) := ggX11_init_X5_init
set_option maxRecDepth 20000 in
theorem ggX11_init_X2_init : GoodIn wsX11_init wsX2_init := goodIn_r _ [76, 77, 2, 3, 78, 79, 80, 81, 82, 83, 84, 85, 86, 87, 88, 89, 90, 26, 91, 92, 93, 94, 95, 96, 97, 98, 99, 100, 101, 102, 103, 104, 71, 72, 73, 105, 106, 107, 108, 109, 110, 111, 112, 113, 114, 115, 116, 117, 118, 119, 120, 121, 122, 123, 124, 125, 126, 127, 128, 129, 130, 131, 132, 223, 224, 225, 188, 189, 190, 191, 192, 193, 194, 195, 226, 227, 228, 229, 230, 231, 232, 233, 234, 235, 236, 237, 238, 239, 240, 241, 242] rfl (by decide +kernel)
set_option maxRecDepth 20000 in
theorem gX11_init_X2_init : GoodIn wsX11_init (wsX2_init) := ggX11_init_X2_init
set_option maxRecDepth 20000 in
theorem ggX11_init_X6_init : GoodIn wsX11_init wsX6_init := goodIn_r _ [134, 135, 2, 3, 26, 136, 196, 197] rfl (by decide +kernel)
set_option maxRecDepth 20000 in
theorem gX11_init_X6_init_n27 : GoodIn wsX11_init (wsX6_init) := ggX11_init_X6_init
set_option maxRecDepth 20000 in
theorem ggX11_init_X3_init : GoodIn wsX11_init wsX3_init := goodIn_r _ [139, 140, 2, 3, 26, 141, 142, 143, 144, 145, 122, 146, 147, 148, 149, 150, 151, 152, 153, 154, 155, 156, 157, 158, 159, 160, 161, 162, 163, 198, 199, 200, 201, 202, 203, 204, 205, 206, 207, 208, 209, 210, 211, 212, 213, 214, 215, 243, 244, 245, 246, 247] rfl (by decide +kernel)
set_option maxRecDepth 20000 in
theorem gX11_init_X3_init : GoodIn wsX11_init (wsX3_init) := ggX11_init_X3_init
theorem dX11_init_0 : decode cX11_init 0 = .ok (.aload_n 0, 1) := by decide +kernel
theorem dX11_init_1 : decode cX11_init 1 = .ok (.invokespecial 3, 3) := by decide +kernel
theorem dX11_init_4 : decode cX11_init 4 = .ok (.aload_n 0, 1) := by decide +kernel
theorem dX11_init_5 : decode cX11_init 5 = .ok (.new 9, 3) := by decide +kernel
theorem dX11_init_8 : decode cX11_init 8 = .ok (.dup, 1) := by decide +kernel
theorem dX11_init_9 : decode cX11_init 9 = .ok (.invokespecial 11, 3) := by decide +kernel
theorem dX11_init_12 : decode cX11_init 12 = .ok (.putfield 12, 3) := by decide +kernel
theorem dX11_init_15 : decode cX11_init 15 = .ok (.aload_n 0, 1) := by decide +kernel
theorem dX11_init_16 : decode cX11_init 16 = .ok (.new 16, 3) := by decide +kernel
theorem dX11_init_19 : decode cX11_init 19 = .ok (.dup, 1) := by decide +kernel
theorem dX11_init_20 : decode cX11_init 20 = .ok (.aload_n 0, 1) := by decide +kernel
theorem dX11_init_21 : decode cX11_init 21 = .ok (.getfield 12, 3) := by decide +kernel
theorem dX11_init_24 : decode cX11_init 24 = .ok (.invokespecial 18, 3) := by decide +kernel
theorem dX11_init_27 : decode cX11_init 27 = .ok (.putfield 21, 3) := by decide +kernel
theorem dX11_init_30 : decode cX11_init 30 = .ok (.aload_n 0, 1) := by decide +kernel
theorem dX11_init_31 : decode cX11_init 31 = .ok (.new 25, 3) := by decide +kernel
theorem dX11_init_34 : decode cX11_init 34 = .ok (.dup, 1) := by decide +kernel
theorem dX11_init_35 : decode cX11_init 35 = .ok (.invokespecial 27, 3) := by decide +kernel
theorem dX11_init_38 : decode cX11_init 38 = .ok (.putfield 28, 3) := by decide +kernel
theorem dX11_init_41 : decode cX11_init 41 = .ok (.aload_n 0, 1) := by decide +kernel
theorem dX11_init_42 : decode cX11_init 42 = .ok (.new 32, 3) := by decide +kernel
theorem dX11_init_45 : decode cX11_init 45 = .ok (.dup, 1) := by decide +kernel
theorem dX11_init_46 : decode cX11_init 46 = .ok (.aload_n 0, 1) := by decide +kernel
theorem dX11_init_47 : decode cX11_init 47 = .ok (.getfield 12, 3) := by decide +kernel
theorem dX11_init_50 : decode cX11_init 50 = .ok (.invokespecial 34, 3) := by decide +kernel
theorem dX11_init_53 : decode cX11_init 53 = .ok (.putfield 35, 3) := by decide +kernel
theorem dX11_init_56 : decode cX11_init 56 = .ok (.aload_n 0, 1) := by decide +kernel
theorem dX11_init_57 : decode cX11_init 57 = .ok (.new 32, 3) := by decide +kernel
theorem dX11_init_60 : decode cX11_init 60 = .ok (.dup, 1) := by decide +kernel
theorem dX11_init_61 : decode cX11_init 61 = .ok (.aload_n 0, 1) := by decide +kernel
theorem dX11_init_62 : decode cX11_init 62 = .ok (.getfield 12, 3) := by decide +kernel
theorem dX11_init_65 : decode cX11_init 65 = .ok (.invokespecial 34, 3) := by decide +kernel
theorem dX11_init_68 : decode cX11_init 68 = .ok (.putfield 39, 3) := by decide +kernel
theorem dX11_init_71 : decode cX11_init 71 = .ok (.return_, 1) := by decide +kernel
set_option maxRecDepth 20000 in
theorem ggX11_type_X11_isTypeName : GoodIn wsX11_type wsX11_isTypeName := goodIn_r _ [11] rfl (by decide +kernel)
set_option maxRecDepth 20000 in
theorem gX11_type_X11_isTypeName : GoodIn wsX11_type (va_wsS RX11 49 yX11_isTypeName wsX11_isTypeName) := goodIn_app (goodIn_of _ (by decide +kernel)) ggX11_type_X11_isTypeName
set_option maxRecDepth 20000 in
theorem ggX11_type_X11_needType : GoodIn wsX11_type wsX11_needType := goodIn_ca (goodIn_r _ [15, 16, 17, 5, 6, 45, 46, 47, 48, 49, 50, 51, 52, 53, 54, 55, 56, 57, 58, 59, 60, 61, 62, 63, 64, 65, 66, 67, 68] rfl (by decide +kernel)) (goodIn_sub (fun _ h => List.mem_cons_of_mem _ (List.mem_append_right _ h)) (by decide +kernel))
set_option maxRecDepth 20000 in
theorem gX11_type_X11_needType : GoodIn wsX11_type (wsV RX11 55 RX11 yX11_needType wsX11_needType) := goodIn_app (goodIn_of _ (by decide +kernel)) ggX11_type_X11_needType
set_option maxRecDepth 20000 in
theorem ggX11_type_X5_addSmallType : GoodIn wsX11_type wsX5_addSmallType := goodIn_r _ [44, 23, 24, 30, 31, 32, 33, 21, 34, 25, 35, 36, 10, 37, 38, 39, 40, 51, 52, 53, 54, 55, 56, 57, 58, 59, 60, 61, 62, 63, 64, 65, 66, 67, 68] rfl (by decide +kernel)
set_option maxRecDepth 20000 in
theorem gX11_type_X5_addSmallType : GoodIn wsX11_type (wsV RX11 78 RX5 yX5_addSmallType wsX5_addSmallType) := goodIn_app (goodIn_of _ (by decide +kernel)) ggX11_type_X5_addSmallType
theorem dX11_type_0 : decode cX11_type 0 = .ok (.iload_n 1, 1) := by decide +kernel
theorem dX11_type_1 : decode cX11_type 1 = .ok (.ifCond .lt 8, 3) := by decide +kernel
theorem dX11_type_4 : decode cX11_type 4 = .ok (.iload_n 1, 1) := by decide +kernel
theorem dX11_type_5 : decode cX11_type 5 = .ok (.iconst 2, 1) := by decide +kernel
theorem dX11_type_6 : decode cX11_type 6 = .ok (.if_icmp .le 13, 3) := by decide +kernel
theorem dX11_type_9 : decode cX11_type 9 = .ok (.new 42, 3) := by decide +kernel
theorem dX11_type_12 : decode cX11_type 12 = .ok (.dup, 1) := by decide +kernel
theorem dX11_type_13 : decode cX11_type 13 = .ok (.ldc 44, 2) := by decide +kernel
theorem dX11_type_15 : decode cX11_type 15 = .ok (.invokespecial 46, 3) := by decide +kernel
theorem dX11_type_18 : decode cX11_type 18 = .ok (.athrow, 1) := by decide +kernel
theorem dX11_type_19 : decode cX11_type 19 = .ok (.iload_n 1, 1) := by decide +kernel
theorem dX11_type_20 : decode cX11_type 20 = .ok (.iconst 2, 1) := by decide +kernel
theorem dX11_type_21 : decode cX11_type 21 = .ok (.if_icmp .ne 20, 3) := by decide +kernel
theorem dX11_type_24 : decode cX11_type 24 = .ok (.iload_n 2, 1) := by decide +kernel
theorem dX11_type_25 : decode cX11_type 25 = .ok (.invokestatic 49, 3) := by decide +kernel
theorem dX11_type_28 : decode cX11_type 28 = .ok (.ifCond .ne 13, 3) := by decide +kernel
theorem dX11_type_31 : decode cX11_type 31 = .ok (.new 42, 3) := by decide +kernel
theorem dX11_type_34 : decode cX11_type 34 = .ok (.dup, 1) := by decide +kernel
theorem dX11_type_35 : decode cX11_type 35 = .ok (.ldc 53, 2) := by decide +kernel
theorem dX11_type_37 : decode cX11_type 37 = .ok (.invokespecial 46, 3) := by decide +kernel
theorem dX11_type_40 : decode cX11_type 40 = .ok (.athrow, 1) := by decide +kernel
theorem dX11_type_41 : decode cX11_type 41 = .ok (.iload_n 1, 1) := by decide +kernel
theorem dX11_type_42 : decode cX11_type 42 = .ok (.iconst 1, 1) := by decide +kernel
theorem dX11_type_43 : decode cX11_type 43 = .ok (.if_icmp .ne 13, 3) := by decide +kernel
theorem dX11_type_46 : decode cX11_type 46 = .ok (.aload_n 0, 1) := by decide +kernel
theorem dX11_type_47 : decode cX11_type 47 = .ok (.iload_n 2, 1) := by decide +kernel
theorem dX11_type_48 : decode cX11_type 48 = .ok (.invokevirtual 55, 3) := by decide +kernel
theorem dX11_type_51 : decode cX11_type 51 = .ok (.aload_n 0, 1) := by decide +kernel
theorem dX11_type_52 : decode cX11_type 52 = .ok (.iload_n 3, 1) := by decide +kernel
theorem dX11_type_53 : decode cX11_type 53 = .ok (.invokevirtual 55, 3) := by decide +kernel
theorem dX11_type_56 : decode cX11_type 56 = .ok (.aload_n 0, 1) := by decide +kernel
theorem dX11_type_57 : decode cX11_type 57 = .ok (.getfield 12, 3) := by decide +kernel
theorem dX11_type_60 : decode cX11_type 60 = .ok (.getfield 59, 3) := by decide +kernel
theorem dX11_type_63 : decode cX11_type 63 = .ok (.bipush 60, 2) := by decide +kernel
theorem dX11_type_65 : decode cX11_type 65 = .ok (.if_icmp .lt 13, 3) := by decide +kernel
theorem dX11_type_68 : decode cX11_type 68 = .ok (.new 63, 3) := by decide +kernel
theorem dX11_type_71 : decode cX11_type 71 = .ok (.dup, 1) := by decide +kernel
theorem dX11_type_72 : decode cX11_type 72 = .ok (.ldc 65, 2) := by decide +kernel
theorem dX11_type_74 : decode cX11_type 74 = .ok (.invokespecial 67, 3) := by decide +kernel
theorem dX11_type_77 : decode cX11_type 77 = .ok (.athrow, 1) := by decide +kernel
theorem dX11_type_78 : decode cX11_type 78 = .ok (.iload_n 1, 1) := by decide +kernel
theorem dX11_type_79 : decode cX11_type 79 = .ok (.iconst 1, 1) := by decide +kernel
theorem dX11_type_80 : decode cX11_type 80 = .ok (.if_icmp .ne 39, 3) := by decide +kernel
theorem dX11_type_83 : decode cX11_type 83 = .ok (.iconst 1, 1) := by decide +kernel
theorem dX11_type_84 : decode cX11_type 84 = .ok (.aload_n 0, 1) := by decide +kernel
theorem dX11_type_85 : decode cX11_type 85 = .ok (.getfield 12, 3) := by decide +kernel
theorem dX11_type_88 : decode cX11_type 88 = .ok (.getfield 68, 3) := by decide +kernel
theorem dX11_type_91 : decode cX11_type 91 = .ok (.iload_n 2, 1) := by decide +kernel
theorem dX11_type_92 : decode cX11_type 92 = .ok (.iaload, 1) := by decide +kernel
theorem dX11_type_93 : decode cX11_type 93 = .ok (.iadd, 1) := by decide +kernel
theorem dX11_type_94 : decode cX11_type 94 = .ok (.aload_n 0, 1) := by decide +kernel
theorem dX11_type_95 : decode cX11_type 95 = .ok (.getfield 12, 3) := by decide +kernel
theorem dX11_type_98 : decode cX11_type 98 = .ok (.getfield 68, 3) := by decide +kernel
theorem dX11_type_101 : decode cX11_type 101 = .ok (.iload_n 3, 1) := by decide +kernel
theorem dX11_type_102 : decode cX11_type 102 = .ok (.iaload, 1) := by decide +kernel
theorem dX11_type_103 : decode cX11_type 103 = .ok (.iadd, 1) := by decide +kernel
theorem dX11_type_104 : decode cX11_type 104 = .ok (.bipush 12, 2) := by decide +kernel
theorem dX11_type_106 : decode cX11_type 106 = .ok (.if_icmp .le 13, 3) := by decide +kernel
theorem dX11_type_109 : decode cX11_type 109 = .ok (.new 63, 3) := by decide +kernel
theorem dX11_type_112 : decode cX11_type 112 = .ok (.dup, 1) := by decide +kernel
theorem dX11_type_113 : decode cX11_type 113 = .ok (.ldc 72, 2) := by decide +kernel
theorem dX11_type_115 : decode cX11_type 115 = .ok (.invokespecial 67, 3) := by decide +kernel
theorem dX11_type_118 : decode cX11_type 118 = .ok (.athrow, 1) := by decide +kernel
theorem dX11_type_119 : decode cX11_type 119 = .ok (.iload_n 1, 1) := by decide +kernel
theorem dX11_type_120 : decode cX11_type 120 = .ok (.iconst 1, 1) := by decide +kernel
theorem dX11_type_121 : decode cX11_type 121 = .ok (.if_icmp .ne 15, 3) := by decide +kernel
theorem dX11_type_124 : decode cX11_type 124 = .ok (.aload_n 0, 1) := by decide +kernel
theorem dX11_type_125 : decode cX11_type 125 = .ok (.getfield 12, 3) := by decide +kernel
theorem dX11_type_128 : decode cX11_type 128 = .ok (.iload_n 2, 1) := by decide +kernel
theorem dX11_type_129 : decode cX11_type 129 = .ok (.iload_n 3, 1) := by decide +kernel
theorem dX11_type_130 : decode cX11_type 130 = .ok (.invokevirtual 74, 3) := by decide +kernel
theorem dX11_type_133 : decode cX11_type 133 = .ok (.goto 21, 3) := by decide +kernel
theorem dX11_type_136 : decode cX11_type 136 = .ok (.aload_n 0, 1) := by decide +kernel
theorem dX11_type_137 : decode cX11_type 137 = .ok (.getfield 12, 3) := by decide +kernel
theorem dX11_type_140 : decode cX11_type 140 = .ok (.iload_n 1, 1) := by decide +kernel
theorem dX11_type_141 : decode cX11_type 141 = .ok (.ifCond .ne 7, 3) := by decide +kernel
theorem dX11_type_144 : decode cX11_type 144 = .ok (.iconst 0, 1) := by decide +kernel
theorem dX11_type_145 : decode cX11_type 145 = .ok (.goto 6, 3) := by decide +kernel
theorem dX11_type_148 : decode cX11_type 148 = .ok (.iconst 2, 1) := by decide +kernel
theorem dX11_type_149 : decode cX11_type 149 = .ok (.iload_n 2, 1) := by decide +kernel
theorem dX11_type_150 : decode cX11_type 150 = .ok (.iadd, 1) := by decide +kernel
theorem dX11_type_151 : decode cX11_type 151 = .ok (.invokevirtual 78, 3) := by decide +kernel
theorem dX11_type_154 : decode cX11_type 154 = .ok (.ireturn, 1) := by decide +kernel
set_option maxRecDepth 20000 in
theorem ggX11_leaf_X11_isValueName : GoodIn wsX11_leaf wsX11_isValueName := goodIn_r _ [10] rfl (by decide +kernel)
set_option maxRecDepth 20000 in
theorem gX11_leaf_X11_isValueName : GoodIn wsX11_leaf (va_wsS RX11 82 yX11_isValueName wsX11_isValueName) := goodIn_app (goodIn_of _ (by decide +kernel)) ggX11_leaf_X11_isValueName
set_option maxRecDepth 20000 in
theorem ggX11_leaf_X5_addLeaf : GoodIn wsX11_leaf wsX5_addLeaf := goodIn_r _ [15, 16, 17, 18, 19, 20, 21, 22, 23, 24, 25, 14, 26, 27, 34, 35, 36, 37, 38, 39, 40, 41, 42, 43, 44, 45, 46, 47, 48, 49, 50, 51] rfl (by decide +kernel)
set_option maxRecDepth 20000 in
theorem gX11_leaf_X5_addLeaf : GoodIn wsX11_leaf (wsV RX11 92 RX5 yX5_addLeaf wsX5_addLeaf) := goodIn_app (goodIn_of _ (by decide +kernel)) ggX11_leaf_X5_addLeaf
theorem dX11_leaf_0 : decode cX11_leaf 0 = .ok (.iload_n 1, 1) := by decide +kernel
theorem dX11_leaf_1 : decode cX11_leaf 1 = .ok (.ifCond .eq 20, 3) := by decide +kernel
theorem dX11_leaf_4 : decode cX11_leaf 4 = .ok (.iload_n 2, 1) := by decide +kernel
theorem dX11_leaf_5 : decode cX11_leaf 5 = .ok (.invokestatic 82, 3) := by decide +kernel
theorem dX11_leaf_8 : decode cX11_leaf 8 = .ok (.ifCond .ne 13, 3) := by decide +kernel
theorem dX11_leaf_11 : decode cX11_leaf 11 = .ok (.new 42, 3) := by decide +kernel
theorem dX11_leaf_14 : decode cX11_leaf 14 = .ok (.dup, 1) := by decide +kernel
theorem dX11_leaf_15 : decode cX11_leaf 15 = .ok (.ldc 85, 2) := by decide +kernel
theorem dX11_leaf_17 : decode cX11_leaf 17 = .ok (.invokespecial 46, 3) := by decide +kernel
theorem dX11_leaf_20 : decode cX11_leaf 20 = .ok (.athrow, 1) := by decide +kernel
theorem dX11_leaf_21 : decode cX11_leaf 21 = .ok (.aload_n 0, 1) := by decide +kernel
theorem dX11_leaf_22 : decode cX11_leaf 22 = .ok (.getfield 12, 3) := by decide +kernel
theorem dX11_leaf_25 : decode cX11_leaf 25 = .ok (.getfield 87, 3) := by decide +kernel
theorem dX11_leaf_28 : decode cX11_leaf 28 = .ok (.bipush 120, 2) := by decide +kernel
theorem dX11_leaf_30 : decode cX11_leaf 30 = .ok (.if_icmp .lt 13, 3) := by decide +kernel
theorem dX11_leaf_33 : decode cX11_leaf 33 = .ok (.new 63, 3) := by decide +kernel
theorem dX11_leaf_36 : decode cX11_leaf 36 = .ok (.dup, 1) := by decide +kernel
theorem dX11_leaf_37 : decode cX11_leaf 37 = .ok (.ldc 90, 2) := by decide +kernel
theorem dX11_leaf_39 : decode cX11_leaf 39 = .ok (.invokespecial 67, 3) := by decide +kernel
theorem dX11_leaf_42 : decode cX11_leaf 42 = .ok (.athrow, 1) := by decide +kernel
theorem dX11_leaf_43 : decode cX11_leaf 43 = .ok (.aload_n 0, 1) := by decide +kernel
theorem dX11_leaf_44 : decode cX11_leaf 44 = .ok (.getfield 12, 3) := by decide +kernel
theorem dX11_leaf_47 : decode cX11_leaf 47 = .ok (.iload_n 1, 1) := by decide +kernel
theorem dX11_leaf_48 : decode cX11_leaf 48 = .ok (.ifCond .eq 8, 3) := by decide +kernel
theorem dX11_leaf_51 : decode cX11_leaf 51 = .ok (.bipush 6, 2) := by decide +kernel
theorem dX11_leaf_53 : decode cX11_leaf 53 = .ok (.goto 4, 3) := by decide +kernel
theorem dX11_leaf_56 : decode cX11_leaf 56 = .ok (.iconst 5, 1) := by decide +kernel
theorem dX11_leaf_57 : decode cX11_leaf 57 = .ok (.iload_n 2, 1) := by decide +kernel
theorem dX11_leaf_58 : decode cX11_leaf 58 = .ok (.invokevirtual 92, 3) := by decide +kernel
theorem dX11_leaf_61 : decode cX11_leaf 61 = .ok (.ireturn, 1) := by decide +kernel
set_option maxRecDepth 20000 in
theorem ggX11_expression_X11_needExpression : GoodIn wsX11_expression wsX11_needExpression := goodIn_ca (goodIn_r _ [11, 12, 13, 5, 6, 36, 37, 38, 39, 40, 41, 42, 43, 44, 45, 46, 47, 48, 49, 50, 51, 52, 53, 54, 55, 56, 57, 58, 59] rfl (by decide +kernel)) (goodIn_sub (fun _ h => List.mem_cons_of_mem _ (List.mem_append_right _ h)) (by decide +kernel))
set_option maxRecDepth 20000 in
theorem gX11_expression_X11_needExpression : GoodIn wsX11_expression (wsV RX11 97 RX11 yX11_needExpression wsX11_needExpression) := goodIn_app (goodIn_of _ (by decide +kernel)) ggX11_expression_X11_needExpression
theorem dX11_expression_0 : decode cX11_expression 0 = .ok (.iload_n 1, 1) := by decide +kernel
theorem dX11_expression_1 : decode cX11_expression 1 = .ok (.ifCond .lt 8, 3) := by decide +kernel
theorem dX11_expression_4 : decode cX11_expression 4 = .ok (.iload_n 1, 1) := by decide +kernel
theorem dX11_expression_5 : decode cX11_expression 5 = .ok (.iconst 4, 1) := by decide +kernel
theorem dX11_expression_6 : decode cX11_expression 6 = .ok (.if_icmp .le 13, 3) := by decide +kernel
theorem dX11_expression_9 : decode cX11_expression 9 = .ok (.new 42, 3) := by decide +kernel
theorem dX11_expression_12 : decode cX11_expression 12 = .ok (.dup, 1) := by decide +kernel
theorem dX11_expression_13 : decode cX11_expression 13 = .ok (.ldc 95, 2) := by decide +kernel
theorem dX11_expression_15 : decode cX11_expression 15 = .ok (.invokespecial 46, 3) := by decide +kernel
theorem dX11_expression_18 : decode cX11_expression 18 = .ok (.athrow, 1) := by decide +kernel
theorem dX11_expression_19 : decode cX11_expression 19 = .ok (.iload_n 1, 1) := by decide +kernel
theorem dX11_expression_20 : decode cX11_expression 20 = .ok (.iconst 2, 1) := by decide +kernel
theorem dX11_expression_21 : decode cX11_expression 21 = .ok (.if_icmp .eq 8, 3) := by decide +kernel
theorem dX11_expression_24 : decode cX11_expression 24 = .ok (.iload_n 1, 1) := by decide +kernel
theorem dX11_expression_25 : decode cX11_expression 25 = .ok (.iconst 3, 1) := by decide +kernel
theorem dX11_expression_26 : decode cX11_expression 26 = .ok (.if_icmp .ne 7, 3) := by decide +kernel
theorem dX11_expression_29 : decode cX11_expression 29 = .ok (.iconst 1, 1) := by decide +kernel
theorem dX11_expression_30 : decode cX11_expression 30 = .ok (.goto 4, 3) := by decide +kernel
theorem dX11_expression_33 : decode cX11_expression 33 = .ok (.iconst 0, 1) := by decide +kernel
theorem dX11_expression_34 : decode cX11_expression 34 = .ok (.istore 5, 2) := by decide +kernel
theorem dX11_expression_36 : decode cX11_expression 36 = .ok (.aload_n 0, 1) := by decide +kernel
theorem dX11_expression_37 : decode cX11_expression 37 = .ok (.iload_n 2, 1) := by decide +kernel
theorem dX11_expression_38 : decode cX11_expression 38 = .ok (.invokevirtual 97, 3) := by decide +kernel
theorem dX11_expression_41 : decode cX11_expression 41 = .ok (.iload 5, 2) := by decide +kernel
theorem dX11_expression_43 : decode cX11_expression 43 = .ok (.ifCond .ne 8, 3) := by decide +kernel
theorem dX11_expression_46 : decode cX11_expression 46 = .ok (.aload_n 0, 1) := by decide +kernel
theorem dX11_expression_47 : decode cX11_expression 47 = .ok (.iload_n 3, 1) := by decide +kernel
theorem dX11_expression_48 : decode cX11_expression 48 = .ok (.invokevirtual 97, 3) := by decide +kernel
theorem dX11_expression_51 : decode cX11_expression 51 = .ok (.iload_n 1, 1) := by decide +kernel
theorem dX11_expression_52 : decode cX11_expression 52 = .ok (.iconst 4, 1) := by decide +kernel
theorem dX11_expression_53 : decode cX11_expression 53 = .ok (.if_icmp .ne 9, 3) := by decide +kernel
theorem dX11_expression_56 : decode cX11_expression 56 = .ok (.aload_n 0, 1) := by decide +kernel
theorem dX11_expression_57 : decode cX11_expression 57 = .ok (.iload 4, 2) := by decide +kernel
theorem dX11_expression_59 : decode cX11_expression 59 = .ok (.invokevirtual 97, 3) := by decide +kernel
theorem dX11_expression_62 : decode cX11_expression 62 = .ok (.aload_n 0, 1) := by decide +kernel
theorem dX11_expression_63 : decode cX11_expression 63 = .ok (.getfield 12, 3) := by decide +kernel
theorem dX11_expression_66 : decode cX11_expression 66 = .ok (.getfield 87, 3) := by decide +kernel
theorem dX11_expression_69 : decode cX11_expression 69 = .ok (.bipush 120, 2) := by decide +kernel
theorem dX11_expression_71 : decode cX11_expression 71 = .ok (.if_icmp .lt 13, 3) := by decide +kernel
theorem dX11_expression_74 : decode cX11_expression 74 = .ok (.new 63, 3) := by decide +kernel
theorem dX11_expression_77 : decode cX11_expression 77 = .ok (.dup, 1) := by decide +kernel
theorem dX11_expression_78 : decode cX11_expression 78 = .ok (.ldc 90, 2) := by decide +kernel
theorem dX11_expression_80 : decode cX11_expression 80 = .ok (.invokespecial 67, 3) := by decide +kernel
theorem dX11_expression_83 : decode cX11_expression 83 = .ok (.athrow, 1) := by decide +kernel
theorem dX11_expression_84 : decode cX11_expression 84 = .ok (.iload 5, 2) := by decide +kernel
theorem dX11_expression_86 : decode cX11_expression 86 = .ok (.ifCond .eq 7, 3) := by decide +kernel
theorem dX11_expression_89 : decode cX11_expression 89 = .ok (.iconst (-1), 1) := by decide +kernel
theorem dX11_expression_90 : decode cX11_expression 90 = .ok (.goto 4, 3) := by decide +kernel
theorem dX11_expression_93 : decode cX11_expression 93 = .ok (.iload_n 3, 1) := by decide +kernel
theorem dX11_expression_94 : decode cX11_expression 94 = .ok (.istore 6, 2) := by decide +kernel
theorem dX11_expression_96 : decode cX11_expression 96 = .ok (.iload_n 1, 1) := by decide +kernel
theorem dX11_expression_97 : decode cX11_expression 97 = .ok (.iconst 4, 1) := by decide +kernel
theorem dX11_expression_98 : decode cX11_expression 98 = .ok (.if_icmp .ne 8, 3) := by decide +kernel
theorem dX11_expression_101 : decode cX11_expression 101 = .ok (.iload 4, 2) := by decide +kernel
theorem dX11_expression_103 : decode cX11_expression 103 = .ok (.goto 4, 3) := by decide +kernel
theorem dX11_expression_106 : decode cX11_expression 106 = .ok (.iconst (-1), 1) := by decide +kernel
theorem dX11_expression_107 : decode cX11_expression 107 = .ok (.istore 7, 2) := by decide +kernel
theorem dX11_expression_109 : decode cX11_expression 109 = .ok (.aload_n 0, 1) := by decide +kernel
theorem dX11_expression_110 : decode cX11_expression 110 = .ok (.getfield 12, 3) := by decide +kernel
theorem dX11_expression_113 : decode cX11_expression 113 = .ok (.iload_n 2, 1) := by decide +kernel
theorem dX11_expression_114 : decode cX11_expression 114 = .ok (.iload 6, 2) := by decide +kernel
theorem dX11_expression_116 : decode cX11_expression 116 = .ok (.iload 7, 2) := by decide +kernel
theorem dX11_expression_118 : decode cX11_expression 118 = .ok (.invokevirtual 100, 3) := by decide +kernel
theorem dX11_expression_121 : decode cX11_expression 121 = .ok (.bipush 12, 2) := by decide +kernel
theorem dX11_expression_123 : decode cX11_expression 123 = .ok (.if_icmp .le 13, 3) := by decide +kernel
theorem dX11_expression_126 : decode cX11_expression 126 = .ok (.new 63, 3) := by decide +kernel
theorem dX11_expression_129 : decode cX11_expression 129 = .ok (.dup, 1) := by decide +kernel
theorem dX11_expression_130 : decode cX11_expression 130 = .ok (.ldc 104, 2) := by decide +kernel
theorem dX11_expression_132 : decode cX11_expression 132 = .ok (.invokespecial 67, 3) := by decide +kernel
theorem dX11_expression_135 : decode cX11_expression 135 = .ok (.athrow, 1) := by decide +kernel
theorem dX11_expression_136 : decode cX11_expression 136 = .ok (.aload_n 0, 1) := by decide +kernel
theorem dX11_expression_137 : decode cX11_expression 137 = .ok (.getfield 12, 3) := by decide +kernel
theorem dX11_expression_140 : decode cX11_expression 140 = .ok (.iload_n 1, 1) := by decide +kernel
theorem dX11_expression_141 : decode cX11_expression 141 = .ok (.iload_n 2, 1) := by decide +kernel
theorem dX11_expression_142 : decode cX11_expression 142 = .ok (.iload 6, 2) := by decide +kernel
theorem dX11_expression_144 : decode cX11_expression 144 = .ok (.iload 7, 2) := by decide +kernel
theorem dX11_expression_146 : decode cX11_expression 146 = .ok (.invokevirtual 106, 3) := by decide +kernel
theorem dX11_expression_149 : decode cX11_expression 149 = .ok (.ireturn, 1) := by decide +kernel
set_option maxRecDepth 20000 in
theorem ggX11_unit_X5_addUnit : GoodIn wsX11_unit wsX5_addUnit := goodIn_r _ [9, 10, 11, 12, 13, 8, 14, 15, 16, 17, 18, 19, 20, 21, 22, 23, 24, 25, 26, 27, 28, 29, 30, 31, 32, 33, 34, 41, 42, 43, 44, 45, 46, 47, 48, 49, 50, 51, 52, 53, 54, 55, 56, 57, 58, 59, 60, 61, 62] rfl (by decide +kernel)
set_option maxRecDepth 20000 in
theorem gX11_unit_X5_addUnit : GoodIn wsX11_unit (wsV RX11 115 RX5 yX5_addUnit wsX5_addUnit) := goodIn_app (goodIn_of _ (by decide +kernel)) ggX11_unit_X5_addUnit
theorem dX11_unit_0 : decode cX11_unit 0 = .ok (.aload_n 0, 1) := by decide +kernel
theorem dX11_unit_1 : decode cX11_unit 1 = .ok (.getfield 12, 3) := by decide +kernel
theorem dX11_unit_4 : decode cX11_unit 4 = .ok (.getfield 110, 3) := by decide +kernel
theorem dX11_unit_7 : decode cX11_unit 7 = .ok (.bipush 8, 2) := by decide +kernel
theorem dX11_unit_9 : decode cX11_unit 9 = .ok (.if_icmp .lt 13, 3) := by decide +kernel
theorem dX11_unit_12 : decode cX11_unit 12 = .ok (.new 63, 3) := by decide +kernel
theorem dX11_unit_15 : decode cX11_unit 15 = .ok (.dup, 1) := by decide +kernel
theorem dX11_unit_16 : decode cX11_unit 16 = .ok (.ldc 113, 2) := by decide +kernel
theorem dX11_unit_18 : decode cX11_unit 18 = .ok (.invokespecial 67, 3) := by decide +kernel
theorem dX11_unit_21 : decode cX11_unit 21 = .ok (.athrow, 1) := by decide +kernel
theorem dX11_unit_22 : decode cX11_unit 22 = .ok (.aload_n 0, 1) := by decide +kernel
theorem dX11_unit_23 : decode cX11_unit 23 = .ok (.getfield 12, 3) := by decide +kernel
theorem dX11_unit_26 : decode cX11_unit 26 = .ok (.invokevirtual 115, 3) := by decide +kernel
theorem dX11_unit_29 : decode cX11_unit 29 = .ok (.ireturn, 1) := by decide +kernel
set_option maxRecDepth 20000 in
theorem ggX11_version_X11_needUnit : GoodIn wsX11_version wsX11_needUnit := goodIn_ca (goodIn_r _ [9, 10, 11, 3, 12, 38, 39, 40, 41, 42, 43, 44, 45, 46, 47, 48, 49, 50, 51, 52, 53, 54, 55, 56, 57, 58, 59, 60, 61] rfl (by decide +kernel)) (goodIn_sub (fun _ h => List.mem_cons_of_mem _ (List.mem_append_right _ h)) (by decide +kernel))
set_option maxRecDepth 20000 in
theorem gX11_version_X11_needUnit : GoodIn wsX11_version (wsV RX11 119 RX11 yX11_needUnit wsX11_needUnit) := goodIn_app (goodIn_of _ (by decide +kernel)) ggX11_version_X11_needUnit
set_option maxRecDepth 20000 in
theorem ggX11_version_X5_addVersion : GoodIn wsX11_version wsX5_addVersion := goodIn_r _ [17, 18, 19, 20, 21, 22, 23, 16, 24, 25, 26, 27, 28, 29, 30, 31, 32, 33, 34, 35, 36, 37, 44, 45, 46, 47, 48, 49, 50, 51, 52, 53, 54, 55, 56, 57, 58, 59, 60, 61, 62, 63, 64, 65] rfl (by decide +kernel)
set_option maxRecDepth 20000 in
theorem gX11_version_X5_addVersion : GoodIn wsX11_version (wsV RX11 127 RX5 yX5_addVersion wsX5_addVersion) := goodIn_app (goodIn_of _ (by decide +kernel)) ggX11_version_X5_addVersion
theorem dX11_version_0 : decode cX11_version 0 = .ok (.aload_n 0, 1) := by decide +kernel
theorem dX11_version_1 : decode cX11_version 1 = .ok (.iload_n 1, 1) := by decide +kernel
theorem dX11_version_2 : decode cX11_version 2 = .ok (.invokevirtual 119, 3) := by decide +kernel
theorem dX11_version_5 : decode cX11_version 5 = .ok (.aload_n 0, 1) := by decide +kernel
theorem dX11_version_6 : decode cX11_version 6 = .ok (.getfield 12, 3) := by decide +kernel
theorem dX11_version_9 : decode cX11_version 9 = .ok (.getfield 122, 3) := by decide +kernel
theorem dX11_version_12 : decode cX11_version 12 = .ok (.iload_n 1, 1) := by decide +kernel
theorem dX11_version_13 : decode cX11_version 13 = .ok (.iaload, 1) := by decide +kernel
theorem dX11_version_14 : decode cX11_version 14 = .ok (.iconst 5, 1) := by decide +kernel
theorem dX11_version_15 : decode cX11_version 15 = .ok (.if_icmp .lt 13, 3) := by decide +kernel
theorem dX11_version_18 : decode cX11_version 18 = .ok (.new 63, 3) := by decide +kernel
theorem dX11_version_21 : decode cX11_version 21 = .ok (.dup, 1) := by decide +kernel
theorem dX11_version_22 : decode cX11_version 22 = .ok (.ldc 125, 2) := by decide +kernel
theorem dX11_version_24 : decode cX11_version 24 = .ok (.invokespecial 67, 3) := by decide +kernel
theorem dX11_version_27 : decode cX11_version 27 = .ok (.athrow, 1) := by decide +kernel
theorem dX11_version_28 : decode cX11_version 28 = .ok (.aload_n 0, 1) := by decide +kernel
theorem dX11_version_29 : decode cX11_version 29 = .ok (.getfield 12, 3) := by decide +kernel
theorem dX11_version_32 : decode cX11_version 32 = .ok (.iload_n 1, 1) := by decide +kernel
theorem dX11_version_33 : decode cX11_version 33 = .ok (.invokevirtual 127, 3) := by decide +kernel
theorem dX11_version_36 : decode cX11_version 36 = .ok (.ireturn, 1) := by decide +kernel
set_option maxRecDepth 20000 in
theorem ggX11_setType_X11_needUnit : GoodIn wsX11_setType wsX11_needUnit := goodIn_ca (goodIn_r _ [8, 9, 10, 1, 11, 33, 34, 35, 36, 37, 38, 43, 44, 45, 46, 47, 48, 49, 50, 51, 52, 53, 54, 55, 56, 57, 58, 59, 60] rfl (by decide +kernel)) (goodIn_sub (fun _ h => List.mem_cons_of_mem _ (List.mem_append_left _ (List.mem_append_right _ h))) (by decide +kernel))
set_option maxRecDepth 20000 in
theorem gX11_setType_X11_needUnit : GoodIn wsX11_setType (wsV RX11 119 RX11 yX11_needUnit wsX11_needUnit) := goodIn_app (goodIn_of _ (by decide +kernel)) ggX11_setType_X11_needUnit
set_option maxRecDepth 20000 in
theorem ggX11_setType_X11_needType : GoodIn wsX11_setType wsX11_needType := goodIn_ca (goodIn_r _ [15, 9, 10, 1, 16, 33, 34, 35, 36, 37, 38, 43, 44, 45, 46, 47, 48, 49, 50, 51, 52, 53, 54, 55, 56, 57, 58, 59, 60] rfl (by decide +kernel)) (goodIn_sub (fun _ h => List.mem_cons_of_mem _ (List.mem_append_left _ (List.mem_append_right _ h))) (by decide +kernel))
set_option maxRecDepth 20000 in
theorem gX11_setType_X11_needType : GoodIn wsX11_setType (wsV RX11 55 RX11 yX11_needType wsX11_needType) := goodIn_app (goodIn_of _ (by decide +kernel)) ggX11_setType_X11_needType
theorem dX11_setType_0 : decode cX11_setType 0 = .ok (.aload_n 0, 1) := by decide +kernel
theorem dX11_setType_1 : decode cX11_setType 1 = .ok (.iload_n 1, 1) := by decide +kernel
theorem dX11_setType_2 : decode cX11_setType 2 = .ok (.invokevirtual 119, 3) := by decide +kernel
theorem dX11_setType_5 : decode cX11_setType 5 = .ok (.iload_n 3, 1) := by decide +kernel
theorem dX11_setType_6 : decode cX11_setType 6 = .ok (.iconst (-1), 1) := by decide +kernel
theorem dX11_setType_7 : decode cX11_setType 7 = .ok (.if_icmp .eq 14, 3) := by decide +kernel
theorem dX11_setType_10 : decode cX11_setType 10 = .ok (.iload_n 3, 1) := by decide +kernel
theorem dX11_setType_11 : decode cX11_setType 11 = .ok (.bipush (-2), 2) := by decide +kernel
theorem dX11_setType_13 : decode cX11_setType 13 = .ok (.if_icmp .eq 8, 3) := by decide +kernel
theorem dX11_setType_16 : decode cX11_setType 16 = .ok (.aload_n 0, 1) := by decide +kernel
theorem dX11_setType_17 : decode cX11_setType 17 = .ok (.iload_n 3, 1) := by decide +kernel
theorem dX11_setType_18 : decode cX11_setType 18 = .ok (.invokevirtual 55, 3) := by decide +kernel
theorem dX11_setType_21 : decode cX11_setType 21 = .ok (.aload_n 0, 1) := by decide +kernel
theorem dX11_setType_22 : decode cX11_setType 22 = .ok (.iload_n 2, 1) := by decide +kernel
theorem dX11_setType_23 : decode cX11_setType 23 = .ok (.invokevirtual 130, 3) := by decide +kernel
theorem dX11_setType_26 : decode cX11_setType 26 = .ok (.aload_n 0, 1) := by decide +kernel
theorem dX11_setType_27 : decode cX11_setType 27 = .ok (.getfield 12, 3) := by decide +kernel
theorem dX11_setType_30 : decode cX11_setType 30 = .ok (.iload_n 1, 1) := by decide +kernel
theorem dX11_setType_31 : decode cX11_setType 31 = .ok (.invokevirtual 133, 3) := by decide +kernel
theorem dX11_setType_34 : decode cX11_setType 34 = .ok (.getfield 137, 3) := by decide +kernel
theorem dX11_setType_37 : decode cX11_setType 37 = .ok (.iload_n 2, 1) := by decide +kernel
theorem dX11_setType_38 : decode cX11_setType 38 = .ok (.iload_n 3, 1) := by decide +kernel
theorem dX11_setType_39 : decode cX11_setType 39 = .ok (.iastore, 1) := by decide +kernel
theorem dX11_setType_40 : decode cX11_setType 40 = .ok (.aload_n 0, 1) := by decide +kernel
theorem dX11_setType_41 : decode cX11_setType 41 = .ok (.getfield 12, 3) := by decide +kernel
theorem dX11_setType_44 : decode cX11_setType 44 = .ok (.dup, 1) := by decide +kernel
theorem dX11_setType_45 : decode cX11_setType 45 = .ok (.getfield 142, 3) := by decide +kernel
theorem dX11_setType_48 : decode cX11_setType 48 = .ok (.iconst 1, 1) := by decide +kernel
theorem dX11_setType_49 : decode cX11_setType 49 = .ok (.iadd, 1) := by decide +kernel
theorem dX11_setType_50 : decode cX11_setType 50 = .ok (.putfield 142, 3) := by decide +kernel
theorem dX11_setType_53 : decode cX11_setType 53 = .ok (.return_, 1) := by decide +kernel
set_option maxRecDepth 20000 in
theorem ggX11_setValue_X11_needUnit : GoodIn wsX11_setValue wsX11_needUnit := goodIn_ca (goodIn_r _ [12, 13, 14, 3, 15, 40, 41, 42, 43, 44, 45, 50, 51, 52, 53, 54, 55, 56, 57, 58, 59, 60, 61, 62, 63, 64, 65, 66, 67] rfl (by decide +kernel)) (goodIn_sub (fun _ h => List.mem_cons_of_mem _ (List.mem_append_right _ h)) (by decide +kernel))
set_option maxRecDepth 20000 in
theorem gX11_setValue_X11_needUnit : GoodIn wsX11_setValue (wsV RX11 119 RX11 yX11_needUnit wsX11_needUnit) := goodIn_app (goodIn_of _ (by decide +kernel)) ggX11_setValue_X11_needUnit
set_option maxRecDepth 20000 in
theorem ggX11_setValue_X11_needType : GoodIn wsX11_setValue wsX11_needType := goodIn_ca (goodIn_r _ [19, 13, 14, 3, 20, 40, 41, 42, 43, 44, 45, 50, 51, 52, 53, 54, 55, 56, 57, 58, 59, 60, 61, 62, 63, 64, 65, 66, 67] rfl (by decide +kernel)) (goodIn_sub (fun _ h => List.mem_cons_of_mem _ (List.mem_append_right _ h)) (by decide +kernel))
set_option maxRecDepth 20000 in
theorem gX11_setValue_X11_needType : GoodIn wsX11_setValue (wsV RX11 55 RX11 yX11_needType wsX11_needType) := goodIn_app (goodIn_of _ (by decide +kernel)) ggX11_setValue_X11_needType
set_option maxRecDepth 20000 in
theorem ggX11_setValue_X11_needExpression : GoodIn wsX11_setValue wsX11_needExpression := goodIn_ca (goodIn_r _ [24, 13, 14, 3, 25, 40, 41, 42, 43, 44, 45, 50, 51, 52, 53, 54, 55, 56, 57, 58, 59, 60, 61, 62, 63, 64, 65, 66, 67] rfl (by decide +kernel)) (goodIn_sub (fun _ h => List.mem_cons_of_mem _ (List.mem_append_right _ h)) (by decide +kernel))
set_option maxRecDepth 20000 in
theorem gX11_setValue_X11_needExpression : GoodIn wsX11_setValue (wsV RX11 97 RX11 yX11_needExpression wsX11_needExpression) := goodIn_app (goodIn_of _ (by decide +kernel)) ggX11_setValue_X11_needExpression
set_option maxRecDepth 20000 in
theorem ggX11_setValue_X11_needValueName : GoodIn wsX11_setValue wsX11_needValueName := goodIn_ca (goodIn_r _ [29, 1, 2, 30, 31, 11, 32] rfl (by decide +kernel)) (goodIn_sub (fun _ h => List.mem_cons_of_mem _ (List.mem_append_left _ (List.mem_append_right _ h))) (by decide +kernel))
set_option maxRecDepth 20000 in
theorem gX11_setValue_X11_needValueName : GoodIn wsX11_setValue (wsV RX11 145 RX11 yX11_needValueName wsX11_needValueName) := goodIn_app (goodIn_of _ (by decide +kernel)) ggX11_setValue_X11_needValueName
theorem dX11_setValue_0 : decode cX11_setValue 0 = .ok (.aload_n 0, 1) := by decide +kernel
theorem dX11_setValue_1 : decode cX11_setValue 1 = .ok (.iload_n 1, 1) := by decide +kernel
theorem dX11_setValue_2 : decode cX11_setValue 2 = .ok (.invokevirtual 119, 3) := by decide +kernel
theorem dX11_setValue_5 : decode cX11_setValue 5 = .ok (.aload_n 0, 1) := by decide +kernel
theorem dX11_setValue_6 : decode cX11_setValue 6 = .ok (.iload_n 3, 1) := by decide +kernel
theorem dX11_setValue_7 : decode cX11_setValue 7 = .ok (.invokevirtual 55, 3) := by decide +kernel
theorem dX11_setValue_10 : decode cX11_setValue 10 = .ok (.iload 4, 2) := by decide +kernel
theorem dX11_setValue_12 : decode cX11_setValue 12 = .ok (.iconst (-1), 1) := by decide +kernel
theorem dX11_setValue_13 : decode cX11_setValue 13 = .ok (.if_icmp .eq 9, 3) := by decide +kernel
theorem dX11_setValue_16 : decode cX11_setValue 16 = .ok (.aload_n 0, 1) := by decide +kernel
theorem dX11_setValue_17 : decode cX11_setValue 17 = .ok (.iload 4, 2) := by decide +kernel
theorem dX11_setValue_19 : decode cX11_setValue 19 = .ok (.invokevirtual 97, 3) := by decide +kernel
theorem dX11_setValue_22 : decode cX11_setValue 22 = .ok (.aload_n 0, 1) := by decide +kernel
theorem dX11_setValue_23 : decode cX11_setValue 23 = .ok (.iload_n 2, 1) := by decide +kernel
theorem dX11_setValue_24 : decode cX11_setValue 24 = .ok (.invokevirtual 145, 3) := by decide +kernel
theorem dX11_setValue_27 : decode cX11_setValue 27 = .ok (.iload 4, 2) := by decide +kernel
theorem dX11_setValue_29 : decode cX11_setValue 29 = .ok (.iconst (-1), 1) := by decide +kernel
theorem dX11_setValue_30 : decode cX11_setValue 30 = .ok (.if_icmp .ne 7, 3) := by decide +kernel
theorem dX11_setValue_33 : decode cX11_setValue 33 = .ok (.iconst 1, 1) := by decide +kernel
theorem dX11_setValue_34 : decode cX11_setValue 34 = .ok (.goto 4, 3) := by decide +kernel
theorem dX11_setValue_37 : decode cX11_setValue 37 = .ok (.iconst 0, 1) := by decide +kernel
theorem dX11_setValue_38 : decode cX11_setValue 38 = .ok (.istore 6, 2) := by decide +kernel
theorem dX11_setValue_40 : decode cX11_setValue 40 = .ok (.iload 5, 2) := by decide +kernel
theorem dX11_setValue_42 : decode cX11_setValue 42 = .ok (.ifCond .lt 26, 3) := by decide +kernel
theorem dX11_setValue_45 : decode cX11_setValue 45 = .ok (.iload 5, 2) := by decide +kernel
theorem dX11_setValue_47 : decode cX11_setValue 47 = .ok (.bipush 7, 2) := by decide +kernel
theorem dX11_setValue_49 : decode cX11_setValue 49 = .ok (.if_icmp .gt 19, 3) := by decide +kernel
theorem dX11_setValue_52 : decode cX11_setValue 52 = .ok (.iload 6, 2) := by decide +kernel
theorem dX11_setValue_54 : decode cX11_setValue 54 = .ok (.ifCond .eq 24, 3) := by decide +kernel
theorem dX11_setValue_57 : decode cX11_setValue 57 = .ok (.iload 5, 2) := by decide +kernel
theorem dX11_setValue_59 : decode cX11_setValue 59 = .ok (.ifCond .eq 19, 3) := by decide +kernel
theorem dX11_setValue_62 : decode cX11_setValue 62 = .ok (.iload 5, 2) := by decide +kernel
theorem dX11_setValue_64 : decode cX11_setValue 64 = .ok (.iconst 4, 1) := by decide +kernel
theorem dX11_setValue_65 : decode cX11_setValue 65 = .ok (.if_icmp .eq 13, 3) := by decide +kernel
theorem dX11_setValue_68 : decode cX11_setValue 68 = .ok (.new 42, 3) := by decide +kernel
theorem dX11_setValue_71 : decode cX11_setValue 71 = .ok (.dup, 1) := by decide +kernel
theorem dX11_setValue_72 : decode cX11_setValue 72 = .ok (.ldc 148, 2) := by decide +kernel
theorem dX11_setValue_74 : decode cX11_setValue 74 = .ok (.invokespecial 46, 3) := by decide +kernel
theorem dX11_setValue_77 : decode cX11_setValue 77 = .ok (.athrow, 1) := by decide +kernel
theorem dX11_setValue_78 : decode cX11_setValue 78 = .ok (.aload_n 0, 1) := by decide +kernel
theorem dX11_setValue_79 : decode cX11_setValue 79 = .ok (.getfield 12, 3) := by decide +kernel
theorem dX11_setValue_82 : decode cX11_setValue 82 = .ok (.iload_n 1, 1) := by decide +kernel
theorem dX11_setValue_83 : decode cX11_setValue 83 = .ok (.invokevirtual 133, 3) := by decide +kernel
theorem dX11_setValue_86 : decode cX11_setValue 86 = .ok (.astore 7, 2) := by decide +kernel
theorem dX11_setValue_88 : decode cX11_setValue 88 = .ok (.aload 7, 2) := by decide +kernel
theorem dX11_setValue_90 : decode cX11_setValue 90 = .ok (.getfield 150, 3) := by decide +kernel
theorem dX11_setValue_93 : decode cX11_setValue 93 = .ok (.iload_n 2, 1) := by decide +kernel
theorem dX11_setValue_94 : decode cX11_setValue 94 = .ok (.iload_n 3, 1) := by decide +kernel
theorem dX11_setValue_95 : decode cX11_setValue 95 = .ok (.iastore, 1) := by decide +kernel
theorem dX11_setValue_96 : decode cX11_setValue 96 = .ok (.aload 7, 2) := by decide +kernel
theorem dX11_setValue_98 : decode cX11_setValue 98 = .ok (.getfield 153, 3) := by decide +kernel
theorem dX11_setValue_101 : decode cX11_setValue 101 = .ok (.iload_n 2, 1) := by decide +kernel
theorem dX11_setValue_102 : decode cX11_setValue 102 = .ok (.iload 4, 2) := by decide +kernel
theorem dX11_setValue_104 : decode cX11_setValue 104 = .ok (.iastore, 1) := by decide +kernel
theorem dX11_setValue_105 : decode cX11_setValue 105 = .ok (.aload 7, 2) := by decide +kernel
theorem dX11_setValue_107 : decode cX11_setValue 107 = .ok (.getfield 156, 3) := by decide +kernel
theorem dX11_setValue_110 : decode cX11_setValue 110 = .ok (.iload_n 2, 1) := by decide +kernel
theorem dX11_setValue_111 : decode cX11_setValue 111 = .ok (.iload 5, 2) := by decide +kernel
theorem dX11_setValue_113 : decode cX11_setValue 113 = .ok (.iastore, 1) := by decide +kernel
theorem dX11_setValue_114 : decode cX11_setValue 114 = .ok (.aload_n 0, 1) := by decide +kernel
theorem dX11_setValue_115 : decode cX11_setValue 115 = .ok (.getfield 12, 3) := by decide +kernel
theorem dX11_setValue_118 : decode cX11_setValue 118 = .ok (.dup, 1) := by decide +kernel
theorem dX11_setValue_119 : decode cX11_setValue 119 = .ok (.getfield 142, 3) := by decide +kernel
theorem dX11_setValue_122 : decode cX11_setValue 122 = .ok (.iconst 1, 1) := by decide +kernel
theorem dX11_setValue_123 : decode cX11_setValue 123 = .ok (.iadd, 1) := by decide +kernel
theorem dX11_setValue_124 : decode cX11_setValue 124 = .ok (.putfield 142, 3) := by decide +kernel
theorem dX11_setValue_127 : decode cX11_setValue 127 = .ok (.return_, 1) := by decide +kernel
set_option maxRecDepth 20000 in
theorem ggX11_remove_X11_needUnit : GoodIn wsX11_remove wsX11_needUnit := goodIn_ca (goodIn_r _ [8, 9, 10, 1, 11, 34, 35, 36, 37, 38, 39, 44, 45, 46, 47, 48, 49, 50, 51, 52, 53, 54, 55, 56, 57, 58, 59, 60, 61] rfl (by decide +kernel)) (goodIn_sub (fun _ h => List.mem_cons_of_mem _ (List.mem_append_left _ (List.mem_append_right _ h))) (by decide +kernel))
set_option maxRecDepth 20000 in
theorem gX11_remove_X11_needUnit : GoodIn wsX11_remove (wsV RX11 119 RX11 yX11_needUnit wsX11_needUnit) := goodIn_app (goodIn_of _ (by decide +kernel)) ggX11_remove_X11_needUnit
set_option maxRecDepth 20000 in
theorem ggX11_remove_X11_needValueName : GoodIn wsX11_remove wsX11_needValueName := goodIn_ca (goodIn_r _ [15, 16, 17, 18, 19, 7, 20] rfl (by decide +kernel)) (goodIn_sub (fun _ h => List.mem_cons_of_mem _ (List.mem_append_right _ h)) (by decide +kernel))
set_option maxRecDepth 20000 in
theorem gX11_remove_X11_needValueName : GoodIn wsX11_remove (wsV RX11 145 RX11 yX11_needValueName wsX11_needValueName) := goodIn_app (goodIn_of _ (by decide +kernel)) ggX11_remove_X11_needValueName
theorem dX11_remove_0 : decode cX11_remove 0 = .ok (.aload_n 0, 1) := by decide +kernel
theorem dX11_remove_1 : decode cX11_remove 1 = .ok (.iload_n 1, 1) := by decide +kernel
theorem dX11_remove_2 : decode cX11_remove 2 = .ok (.invokevirtual 119, 3) := by decide +kernel
theorem dX11_remove_5 : decode cX11_remove 5 = .ok (.aload_n 0, 1) := by decide +kernel
theorem dX11_remove_6 : decode cX11_remove 6 = .ok (.iload_n 2, 1) := by decide +kernel
theorem dX11_remove_7 : decode cX11_remove 7 = .ok (.invokevirtual 145, 3) := by decide +kernel
theorem dX11_remove_10 : decode cX11_remove 10 = .ok (.aload_n 0, 1) := by decide +kernel
theorem dX11_remove_11 : decode cX11_remove 11 = .ok (.getfield 12, 3) := by decide +kernel
theorem dX11_remove_14 : decode cX11_remove 14 = .ok (.iload_n 1, 1) := by decide +kernel
theorem dX11_remove_15 : decode cX11_remove 15 = .ok (.invokevirtual 133, 3) := by decide +kernel
theorem dX11_remove_18 : decode cX11_remove 18 = .ok (.astore_n 3, 1) := by decide +kernel
theorem dX11_remove_19 : decode cX11_remove 19 = .ok (.aload_n 3, 1) := by decide +kernel
theorem dX11_remove_20 : decode cX11_remove 20 = .ok (.iload_n 2, 1) := by decide +kernel
theorem dX11_remove_21 : decode cX11_remove 21 = .ok (.invokevirtual 159, 3) := by decide +kernel
theorem dX11_remove_24 : decode cX11_remove 24 = .ok (.istore 4, 2) := by decide +kernel
theorem dX11_remove_26 : decode cX11_remove 26 = .ok (.aload_n 3, 1) := by decide +kernel
theorem dX11_remove_27 : decode cX11_remove 27 = .ok (.getfield 150, 3) := by decide +kernel
theorem dX11_remove_30 : decode cX11_remove 30 = .ok (.iload_n 2, 1) := by decide +kernel
theorem dX11_remove_31 : decode cX11_remove 31 = .ok (.bipush (-2), 2) := by decide +kernel
theorem dX11_remove_33 : decode cX11_remove 33 = .ok (.iastore, 1) := by decide +kernel
theorem dX11_remove_34 : decode cX11_remove 34 = .ok (.aload_n 0, 1) := by decide +kernel
theorem dX11_remove_35 : decode cX11_remove 35 = .ok (.getfield 12, 3) := by decide +kernel
theorem dX11_remove_38 : decode cX11_remove 38 = .ok (.dup, 1) := by decide +kernel
theorem dX11_remove_39 : decode cX11_remove 39 = .ok (.getfield 142, 3) := by decide +kernel
theorem dX11_remove_42 : decode cX11_remove 42 = .ok (.iconst 1, 1) := by decide +kernel
theorem dX11_remove_43 : decode cX11_remove 43 = .ok (.iadd, 1) := by decide +kernel
theorem dX11_remove_44 : decode cX11_remove 44 = .ok (.putfield 142, 3) := by decide +kernel
theorem dX11_remove_47 : decode cX11_remove 47 = .ok (.iload 4, 2) := by decide +kernel
theorem dX11_remove_49 : decode cX11_remove 49 = .ok (.ireturn, 1) := by decide +kernel
set_option maxRecDepth 20000 in
theorem ggX11_unitNode_X11_needUnit : GoodIn wsX11_unitNode wsX11_needUnit := goodIn_ca (goodIn_r _ [10, 1, 2, 3, 11, 128, 129, 130, 131, 132, 133, 134, 135, 136, 137, 138, 139, 140, 141, 142, 143, 144, 145, 146, 147, 148, 149, 150, 151] rfl (by decide +kernel)) (goodIn_sub (fun _ h => List.mem_cons_of_mem _ (List.mem_append_left _ (List.mem_append_right _ h))) (by decide +kernel))
set_option maxRecDepth 20000 in
theorem gX11_unitNode_X11_needUnit : GoodIn wsX11_unitNode (wsV RX11 119 RX11 yX11_needUnit wsX11_needUnit) := goodIn_app (goodIn_of _ (by decide +kernel)) ggX11_unitNode_X11_needUnit
theorem dX11_unitNode_0 : decode cX11_unitNode 0 = .ok (.aload_n 0, 1) := by decide +kernel
theorem dX11_unitNode_1 : decode cX11_unitNode 1 = .ok (.iload_n 1, 1) := by decide +kernel
theorem dX11_unitNode_2 : decode cX11_unitNode 2 = .ok (.invokevirtual 119, 3) := by decide +kernel
theorem dX11_unitNode_5 : decode cX11_unitNode 5 = .ok (.iload_n 2, 1) := by decide +kernel
theorem dX11_unitNode_6 : decode cX11_unitNode 6 = .ok (.iconst (-1), 1) := by decide +kernel
theorem dX11_unitNode_7 : decode cX11_unitNode 7 = .ok (.if_icmp .lt 16, 3) := by decide +kernel
theorem dX11_unitNode_10 : decode cX11_unitNode 10 = .ok (.iload_n 2, 1) := by decide +kernel
theorem dX11_unitNode_11 : decode cX11_unitNode 11 = .ok (.aload_n 0, 1) := by decide +kernel
theorem dX11_unitNode_12 : decode cX11_unitNode 12 = .ok (.getfield 12, 3) := by decide +kernel
theorem dX11_unitNode_15 : decode cX11_unitNode 15 = .ok (.getfield 122, 3) := by decide +kernel
theorem dX11_unitNode_18 : decode cX11_unitNode 18 = .ok (.iload_n 1, 1) := by decide +kernel
theorem dX11_unitNode_19 : decode cX11_unitNode 19 = .ok (.iaload, 1) := by decide +kernel
theorem dX11_unitNode_20 : decode cX11_unitNode 20 = .ok (.if_icmp .lt 13, 3) := by decide +kernel
theorem dX11_unitNode_23 : decode cX11_unitNode 23 = .ok (.new 162, 3) := by decide +kernel
theorem dX11_unitNode_26 : decode cX11_unitNode 26 = .ok (.dup, 1) := by decide +kernel
theorem dX11_unitNode_27 : decode cX11_unitNode 27 = .ok (.ldc 164, 2) := by decide +kernel
theorem dX11_unitNode_29 : decode cX11_unitNode 29 = .ok (.invokespecial 166, 3) := by decide +kernel
theorem dX11_unitNode_32 : decode cX11_unitNode 32 = .ok (.athrow, 1) := by decide +kernel
theorem dX11_unitNode_33 : decode cX11_unitNode 33 = .ok (.aload_n 0, 1) := by decide +kernel
theorem dX11_unitNode_34 : decode cX11_unitNode 34 = .ok (.iconst 1, 1) := by decide +kernel
theorem dX11_unitNode_35 : decode cX11_unitNode 35 = .ok (.invokevirtual 167, 3) := by decide +kernel
theorem dX11_unitNode_38 : decode cX11_unitNode 38 = .ok (.aload_n 0, 1) := by decide +kernel
theorem dX11_unitNode_39 : decode cX11_unitNode 39 = .ok (.getfield 12, 3) := by decide +kernel
theorem dX11_unitNode_42 : decode cX11_unitNode 42 = .ok (.bipush 6, 2) := by decide +kernel
theorem dX11_unitNode_44 : decode cX11_unitNode 44 = .ok (.iconst 0, 1) := by decide +kernel
theorem dX11_unitNode_45 : decode cX11_unitNode 45 = .ok (.anewarray 170, 3) := by decide +kernel
theorem dX11_unitNode_48 : decode cX11_unitNode 48 = .ok (.iload_n 1, 1) := by decide +kernel
theorem dX11_unitNode_49 : decode cX11_unitNode 49 = .ok (.iload_n 2, 1) := by decide +kernel
theorem dX11_unitNode_50 : decode cX11_unitNode 50 = .ok (.iconst 0, 1) := by decide +kernel
theorem dX11_unitNode_51 : decode cX11_unitNode 51 = .ok (.invokevirtual 172, 3) := by decide +kernel
theorem dX11_unitNode_54 : decode cX11_unitNode 54 = .ok (.ireturn, 1) := by decide +kernel
set_option maxRecDepth 20000 in
theorem ggX11_node_X11_neededNode : GoodIn wsX11_node wsX11_neededNode := goodIn_ca (goodIn_r _ [10, 11, 12, 5, 13, 14, 15, 16, 17, 18, 19, 20, 21, 22, 23, 24, 25, 26, 27, 28, 29, 30, 31, 32, 33, 34, 35, 36, 37, 160, 161, 162, 163, 164, 165, 166, 167, 168, 169, 170, 171, 172, 173, 174, 175, 176, 177, 178, 179, 180, 181, 182, 183, 184, 185, 186] rfl (by decide +kernel)) (goodIn_sub (fun _ h => List.mem_cons_of_mem _ (List.mem_append_left _ (List.mem_append_right _ h))) (by decide +kernel))
set_option maxRecDepth 20000 in
theorem gX11_node_X11_neededNode : GoodIn wsX11_node (wsV RX11 178 RX11 yX11_neededNode wsX11_neededNode) := goodIn_app (goodIn_of _ (by decide +kernel)) ggX11_node_X11_neededNode
theorem dX11_node_0 : decode cX11_node 0 = .ok (.iload_n 1, 1) := by decide +kernel
theorem dX11_node_1 : decode cX11_node 1 = .ok (.ifCond .lt 8, 3) := by decide +kernel
theorem dX11_node_4 : decode cX11_node 4 = .ok (.iload_n 1, 1) := by decide +kernel
theorem dX11_node_5 : decode cX11_node 5 = .ok (.iconst 2, 1) := by decide +kernel
theorem dX11_node_6 : decode cX11_node 6 = .ok (.if_icmp .le 13, 3) := by decide +kernel
theorem dX11_node_9 : decode cX11_node 9 = .ok (.new 42, 3) := by decide +kernel
theorem dX11_node_12 : decode cX11_node 12 = .ok (.dup, 1) := by decide +kernel
theorem dX11_node_13 : decode cX11_node 13 = .ok (.ldc 176, 2) := by decide +kernel
theorem dX11_node_15 : decode cX11_node 15 = .ok (.invokespecial 46, 3) := by decide +kernel
theorem dX11_node_18 : decode cX11_node 18 = .ok (.athrow, 1) := by decide +kernel
theorem dX11_node_19 : decode cX11_node 19 = .ok (.iconst 2, 1) := by decide +kernel
theorem dX11_node_20 : decode cX11_node 20 = .ok (.anewarray 170, 3) := by decide +kernel
theorem dX11_node_23 : decode cX11_node 23 = .ok (.dup, 1) := by decide +kernel
theorem dX11_node_24 : decode cX11_node 24 = .ok (.iconst 0, 1) := by decide +kernel
theorem dX11_node_25 : decode cX11_node 25 = .ok (.aload_n 0, 1) := by decide +kernel
theorem dX11_node_26 : decode cX11_node 26 = .ok (.iload_n 2, 1) := by decide +kernel
theorem dX11_node_27 : decode cX11_node 27 = .ok (.invokevirtual 178, 3) := by decide +kernel
theorem dX11_node_30 : decode cX11_node 30 = .ok (.aastore, 1) := by decide +kernel
theorem dX11_node_31 : decode cX11_node 31 = .ok (.dup, 1) := by decide +kernel
theorem dX11_node_32 : decode cX11_node 32 = .ok (.iconst 1, 1) := by decide +kernel
theorem dX11_node_33 : decode cX11_node 33 = .ok (.aload_n 0, 1) := by decide +kernel
theorem dX11_node_34 : decode cX11_node 34 = .ok (.iload_n 3, 1) := by decide +kernel
theorem dX11_node_35 : decode cX11_node 35 = .ok (.invokevirtual 178, 3) := by decide +kernel
theorem dX11_node_38 : decode cX11_node 38 = .ok (.aastore, 1) := by decide +kernel
theorem dX11_node_39 : decode cX11_node 39 = .ok (.astore 5, 2) := by decide +kernel
theorem dX11_node_41 : decode cX11_node 41 = .ok (.aload_n 0, 1) := by decide +kernel
theorem dX11_node_42 : decode cX11_node 42 = .ok (.iconst 1, 1) := by decide +kernel
theorem dX11_node_43 : decode cX11_node 43 = .ok (.aload 5, 2) := by decide +kernel
theorem dX11_node_45 : decode cX11_node 45 = .ok (.iconst 0, 1) := by decide +kernel
theorem dX11_node_46 : decode cX11_node 46 = .ok (.aaload, 1) := by decide +kernel
theorem dX11_node_47 : decode cX11_node 47 = .ok (.getfield 182, 3) := by decide +kernel
theorem dX11_node_50 : decode cX11_node 50 = .ok (.iadd, 1) := by decide +kernel
theorem dX11_node_51 : decode cX11_node 51 = .ok (.aload 5, 2) := by decide +kernel
theorem dX11_node_53 : decode cX11_node 53 = .ok (.iconst 1, 1) := by decide +kernel
theorem dX11_node_54 : decode cX11_node 54 = .ok (.aaload, 1) := by decide +kernel
theorem dX11_node_55 : decode cX11_node 55 = .ok (.getfield 182, 3) := by decide +kernel
theorem dX11_node_58 : decode cX11_node 58 = .ok (.iadd, 1) := by decide +kernel
theorem dX11_node_59 : decode cX11_node 59 = .ok (.invokevirtual 167, 3) := by decide +kernel
theorem dX11_node_62 : decode cX11_node 62 = .ok (.aload_n 0, 1) := by decide +kernel
theorem dX11_node_63 : decode cX11_node 63 = .ok (.getfield 12, 3) := by decide +kernel
theorem dX11_node_66 : decode cX11_node 66 = .ok (.iload_n 1, 1) := by decide +kernel
theorem dX11_node_67 : decode cX11_node 67 = .ok (.aload 5, 2) := by decide +kernel
theorem dX11_node_69 : decode cX11_node 69 = .ok (.iconst 0, 1) := by decide +kernel
theorem dX11_node_70 : decode cX11_node 70 = .ok (.iconst 0, 1) := by decide +kernel
theorem dX11_node_71 : decode cX11_node 71 = .ok (.iload_n 1, 1) := by decide +kernel
theorem dX11_node_72 : decode cX11_node 72 = .ok (.ifCond .eq 12, 3) := by decide +kernel
theorem dX11_node_75 : decode cX11_node 75 = .ok (.iload 4, 2) := by decide +kernel
theorem dX11_node_77 : decode cX11_node 77 = .ok (.ifCond .eq 7, 3) := by decide +kernel
theorem dX11_node_80 : decode cX11_node 80 = .ok (.iconst 1, 1) := by decide +kernel
theorem dX11_node_81 : decode cX11_node 81 = .ok (.goto 4, 3) := by decide +kernel
theorem dX11_node_84 : decode cX11_node 84 = .ok (.iconst 0, 1) := by decide +kernel
theorem dX11_node_85 : decode cX11_node 85 = .ok (.invokevirtual 172, 3) := by decide +kernel
theorem dX11_node_88 : decode cX11_node 88 = .ok (.ireturn, 1) := by decide +kernel
set_option maxRecDepth 20000 in
theorem ggX11_choose_X11_neededNode : GoodIn wsX11_choose wsX11_neededNode := goodIn_ca (goodIn_r _ [8, 9, 10, 3, 11, 12, 13, 14, 15, 16, 17, 18, 19, 20, 21, 22, 23, 24, 25, 26, 27, 28, 29, 30, 31, 32, 33, 34, 35, 158, 159, 160, 161, 162, 163, 164, 165, 166, 167, 168, 169, 170, 171, 172, 173, 174, 175, 176, 177, 178, 179, 180, 181, 182, 183, 184] rfl (by decide +kernel)) (goodIn_sub (fun _ h => List.mem_cons_of_mem _ (List.mem_append_left _ (List.mem_append_right _ h))) (by decide +kernel))
set_option maxRecDepth 20000 in
theorem gX11_choose_X11_neededNode : GoodIn wsX11_choose (wsV RX11 178 RX11 yX11_neededNode wsX11_neededNode) := goodIn_app (goodIn_of _ (by decide +kernel)) ggX11_choose_X11_neededNode
theorem dX11_choose_0 : decode cX11_choose 0 = .ok (.iconst 3, 1) := by decide +kernel
theorem dX11_choose_1 : decode cX11_choose 1 = .ok (.anewarray 170, 3) := by decide +kernel
theorem dX11_choose_4 : decode cX11_choose 4 = .ok (.dup, 1) := by decide +kernel
theorem dX11_choose_5 : decode cX11_choose 5 = .ok (.iconst 0, 1) := by decide +kernel
theorem dX11_choose_6 : decode cX11_choose 6 = .ok (.aload_n 0, 1) := by decide +kernel
theorem dX11_choose_7 : decode cX11_choose 7 = .ok (.iload_n 1, 1) := by decide +kernel
theorem dX11_choose_8 : decode cX11_choose 8 = .ok (.invokevirtual 178, 3) := by decide +kernel
theorem dX11_choose_11 : decode cX11_choose 11 = .ok (.aastore, 1) := by decide +kernel
theorem dX11_choose_12 : decode cX11_choose 12 = .ok (.dup, 1) := by decide +kernel
theorem dX11_choose_13 : decode cX11_choose 13 = .ok (.iconst 1, 1) := by decide +kernel
theorem dX11_choose_14 : decode cX11_choose 14 = .ok (.aload_n 0, 1) := by decide +kernel
theorem dX11_choose_15 : decode cX11_choose 15 = .ok (.iload_n 2, 1) := by decide +kernel
theorem dX11_choose_16 : decode cX11_choose 16 = .ok (.invokevirtual 178, 3) := by decide +kernel
theorem dX11_choose_19 : decode cX11_choose 19 = .ok (.aastore, 1) := by decide +kernel
theorem dX11_choose_20 : decode cX11_choose 20 = .ok (.dup, 1) := by decide +kernel
theorem dX11_choose_21 : decode cX11_choose 21 = .ok (.iconst 2, 1) := by decide +kernel
theorem dX11_choose_22 : decode cX11_choose 22 = .ok (.aload_n 0, 1) := by decide +kernel
theorem dX11_choose_23 : decode cX11_choose 23 = .ok (.iload_n 3, 1) := by decide +kernel
theorem dX11_choose_24 : decode cX11_choose 24 = .ok (.invokevirtual 178, 3) := by decide +kernel
theorem dX11_choose_27 : decode cX11_choose 27 = .ok (.aastore, 1) := by decide +kernel
theorem dX11_choose_28 : decode cX11_choose 28 = .ok (.astore 4, 2) := by decide +kernel
theorem dX11_choose_30 : decode cX11_choose 30 = .ok (.aload_n 0, 1) := by decide +kernel
theorem dX11_choose_31 : decode cX11_choose 31 = .ok (.iconst 1, 1) := by decide +kernel
theorem dX11_choose_32 : decode cX11_choose 32 = .ok (.aload 4, 2) := by decide +kernel
theorem dX11_choose_34 : decode cX11_choose 34 = .ok (.iconst 0, 1) := by decide +kernel
theorem dX11_choose_35 : decode cX11_choose 35 = .ok (.aaload, 1) := by decide +kernel
theorem dX11_choose_36 : decode cX11_choose 36 = .ok (.getfield 182, 3) := by decide +kernel
theorem dX11_choose_39 : decode cX11_choose 39 = .ok (.iadd, 1) := by decide +kernel
theorem dX11_choose_40 : decode cX11_choose 40 = .ok (.aload 4, 2) := by decide +kernel
theorem dX11_choose_42 : decode cX11_choose 42 = .ok (.iconst 1, 1) := by decide +kernel
theorem dX11_choose_43 : decode cX11_choose 43 = .ok (.aaload, 1) := by decide +kernel
theorem dX11_choose_44 : decode cX11_choose 44 = .ok (.getfield 182, 3) := by decide +kernel
theorem dX11_choose_47 : decode cX11_choose 47 = .ok (.iadd, 1) := by decide +kernel
theorem dX11_choose_48 : decode cX11_choose 48 = .ok (.aload 4, 2) := by decide +kernel
theorem dX11_choose_50 : decode cX11_choose 50 = .ok (.iconst 2, 1) := by decide +kernel
theorem dX11_choose_51 : decode cX11_choose 51 = .ok (.aaload, 1) := by decide +kernel
theorem dX11_choose_52 : decode cX11_choose 52 = .ok (.getfield 182, 3) := by decide +kernel
theorem dX11_choose_55 : decode cX11_choose 55 = .ok (.iadd, 1) := by decide +kernel
theorem dX11_choose_56 : decode cX11_choose 56 = .ok (.invokevirtual 167, 3) := by decide +kernel
theorem dX11_choose_59 : decode cX11_choose 59 = .ok (.aload_n 0, 1) := by decide +kernel
theorem dX11_choose_60 : decode cX11_choose 60 = .ok (.getfield 12, 3) := by decide +kernel
theorem dX11_choose_63 : decode cX11_choose 63 = .ok (.iconst 3, 1) := by decide +kernel
theorem dX11_choose_64 : decode cX11_choose 64 = .ok (.aload 4, 2) := by decide +kernel
theorem dX11_choose_66 : decode cX11_choose 66 = .ok (.iconst 0, 1) := by decide +kernel
theorem dX11_choose_67 : decode cX11_choose 67 = .ok (.iconst 0, 1) := by decide +kernel
theorem dX11_choose_68 : decode cX11_choose 68 = .ok (.iconst 0, 1) := by decide +kernel
theorem dX11_choose_69 : decode cX11_choose 69 = .ok (.invokevirtual 172, 3) := by decide +kernel
theorem dX11_choose_72 : decode cX11_choose 72 = .ok (.ireturn, 1) := by decide +kernel
set_option maxRecDepth 20000 in
theorem ggX11_rename_X11_neededNode : GoodIn wsX11_rename wsX11_neededNode := goodIn_ca (goodIn_r _ [10, 11, 12, 5, 13, 14, 15, 16, 17, 18, 19, 20, 21, 22, 23, 24, 25, 26, 27, 28, 29, 30, 31, 32, 33, 34, 35, 36, 37, 167, 168, 169, 170, 171, 172, 173, 174, 175, 176, 177, 178, 179, 180, 181, 182, 183, 184, 185, 186, 187, 188, 189, 190, 191, 192, 193] rfl (by decide +kernel)) (goodIn_sub (fun _ h => List.mem_cons_of_mem _ (List.mem_append_left _ (List.mem_append_right _ h))) (by decide +kernel))
set_option maxRecDepth 20000 in
theorem gX11_rename_X11_neededNode : GoodIn wsX11_rename (wsV RX11 178 RX11 yX11_neededNode wsX11_neededNode) := goodIn_app (goodIn_of _ (by decide +kernel)) ggX11_rename_X11_neededNode
set_option maxRecDepth 20000 in
theorem ggX11_rename_X11_needValueName : GoodIn wsX11_rename wsX11_needValueName := goodIn_ca (goodIn_r _ [41, 1, 2, 42, 43, 9, 44] rfl (by decide +kernel)) (goodIn_sub (fun _ h => List.mem_cons_of_mem _ (List.mem_append_left _ (List.mem_append_left _ (List.mem_append_right _ h)))) (by decide +kernel))
set_option maxRecDepth 20000 in
theorem gX11_rename_X11_needValueName : GoodIn wsX11_rename (wsV RX11 145 RX11 yX11_needValueName wsX11_needValueName) := goodIn_app (goodIn_of _ (by decide +kernel)) ggX11_rename_X11_needValueName
theorem dX11_rename_0 : decode cX11_rename 0 = .ok (.iconst 1, 1) := by decide +kernel
theorem dX11_rename_1 : decode cX11_rename 1 = .ok (.anewarray 170, 3) := by decide +kernel
theorem dX11_rename_4 : decode cX11_rename 4 = .ok (.dup, 1) := by decide +kernel
theorem dX11_rename_5 : decode cX11_rename 5 = .ok (.iconst 0, 1) := by decide +kernel
theorem dX11_rename_6 : decode cX11_rename 6 = .ok (.aload_n 0, 1) := by decide +kernel
theorem dX11_rename_7 : decode cX11_rename 7 = .ok (.iload_n 1, 1) := by decide +kernel
theorem dX11_rename_8 : decode cX11_rename 8 = .ok (.invokevirtual 178, 3) := by decide +kernel
theorem dX11_rename_11 : decode cX11_rename 11 = .ok (.aastore, 1) := by decide +kernel
theorem dX11_rename_12 : decode cX11_rename 12 = .ok (.astore 4, 2) := by decide +kernel
theorem dX11_rename_14 : decode cX11_rename 14 = .ok (.aload_n 0, 1) := by decide +kernel
theorem dX11_rename_15 : decode cX11_rename 15 = .ok (.iload_n 2, 1) := by decide +kernel
theorem dX11_rename_16 : decode cX11_rename 16 = .ok (.invokevirtual 145, 3) := by decide +kernel
theorem dX11_rename_19 : decode cX11_rename 19 = .ok (.iload_n 3, 1) := by decide +kernel
theorem dX11_rename_20 : decode cX11_rename 20 = .ok (.iconst (-1), 1) := by decide +kernel
theorem dX11_rename_21 : decode cX11_rename 21 = .ok (.if_icmp .lt 14, 3) := by decide +kernel
theorem dX11_rename_24 : decode cX11_rename 24 = .ok (.iload_n 3, 1) := by decide +kernel
theorem dX11_rename_25 : decode cX11_rename 25 = .ok (.bipush 10, 2) := by decide +kernel
theorem dX11_rename_27 : decode cX11_rename 27 = .ok (.if_icmp .ge 8, 3) := by decide +kernel
theorem dX11_rename_30 : decode cX11_rename 30 = .ok (.iload_n 3, 1) := by decide +kernel
theorem dX11_rename_31 : decode cX11_rename 31 = .ok (.iload_n 2, 1) := by decide +kernel
theorem dX11_rename_32 : decode cX11_rename 32 = .ok (.if_icmp .ne 13, 3) := by decide +kernel
theorem dX11_rename_35 : decode cX11_rename 35 = .ok (.new 42, 3) := by decide +kernel
theorem dX11_rename_38 : decode cX11_rename 38 = .ok (.dup, 1) := by decide +kernel
theorem dX11_rename_39 : decode cX11_rename 39 = .ok (.ldc 185, 2) := by decide +kernel
theorem dX11_rename_41 : decode cX11_rename 41 = .ok (.invokespecial 46, 3) := by decide +kernel
theorem dX11_rename_44 : decode cX11_rename 44 = .ok (.athrow, 1) := by decide +kernel
theorem dX11_rename_45 : decode cX11_rename 45 = .ok (.aload_n 0, 1) := by decide +kernel
theorem dX11_rename_46 : decode cX11_rename 46 = .ok (.iconst 1, 1) := by decide +kernel
theorem dX11_rename_47 : decode cX11_rename 47 = .ok (.aload 4, 2) := by decide +kernel
theorem dX11_rename_49 : decode cX11_rename 49 = .ok (.iconst 0, 1) := by decide +kernel
theorem dX11_rename_50 : decode cX11_rename 50 = .ok (.aaload, 1) := by decide +kernel
theorem dX11_rename_51 : decode cX11_rename 51 = .ok (.getfield 182, 3) := by decide +kernel
theorem dX11_rename_54 : decode cX11_rename 54 = .ok (.iadd, 1) := by decide +kernel
theorem dX11_rename_55 : decode cX11_rename 55 = .ok (.invokevirtual 167, 3) := by decide +kernel
theorem dX11_rename_58 : decode cX11_rename 58 = .ok (.aload_n 0, 1) := by decide +kernel
theorem dX11_rename_59 : decode cX11_rename 59 = .ok (.getfield 12, 3) := by decide +kernel
theorem dX11_rename_62 : decode cX11_rename 62 = .ok (.iload_n 3, 1) := by decide +kernel
theorem dX11_rename_63 : decode cX11_rename 63 = .ok (.ifCond .ge 7, 3) := by decide +kernel
theorem dX11_rename_66 : decode cX11_rename 66 = .ok (.iconst 5, 1) := by decide +kernel
theorem dX11_rename_67 : decode cX11_rename 67 = .ok (.goto 4, 3) := by decide +kernel
theorem dX11_rename_70 : decode cX11_rename 70 = .ok (.iconst 4, 1) := by decide +kernel
theorem dX11_rename_71 : decode cX11_rename 71 = .ok (.aload 4, 2) := by decide +kernel
theorem dX11_rename_73 : decode cX11_rename 73 = .ok (.iload_n 2, 1) := by decide +kernel
theorem dX11_rename_74 : decode cX11_rename 74 = .ok (.iload_n 3, 1) := by decide +kernel
theorem dX11_rename_75 : decode cX11_rename 75 = .ok (.iconst 0, 1) := by decide +kernel
theorem dX11_rename_76 : decode cX11_rename 76 = .ok (.invokevirtual 172, 3) := by decide +kernel
theorem dX11_rename_79 : decode cX11_rename 79 = .ok (.ireturn, 1) := by decide +kernel
set_option maxRecDepth 20000 in
theorem ggX11_error_X11_neededNode : GoodIn wsX11_error wsX11_neededNode := goodIn_ca (goodIn_r _ [7, 8, 9, 10, 11, 12, 13, 14, 15, 16, 17, 18, 19, 20, 21, 22, 23, 24, 25, 26, 27, 28, 29, 30, 31, 32, 33, 34, 35, 467, 468, 469, 470, 471, 472, 480, 481, 482, 483, 484, 485, 486, 487, 488, 489, 490, 491, 492, 493, 494, 495, 496, 497, 498, 499, 500] rfl (by decide +kernel)) (goodIn_sub (fun _ h => List.mem_cons_of_mem _ (List.mem_append_right _ h)) (by decide +kernel))
set_option maxRecDepth 20000 in
theorem gX11_error_X11_neededNode : GoodIn wsX11_error (wsV RX11 178 RX11 yX11_neededNode wsX11_neededNode) := goodIn_app (goodIn_of _ (by decide +kernel)) ggX11_error_X11_neededNode
theorem dX11_error_0 : decode cX11_error 0 = .ok (.aload_n 0, 1) := by decide +kernel
theorem dX11_error_1 : decode cX11_error 1 = .ok (.getfield 21, 3) := by decide +kernel
theorem dX11_error_4 : decode cX11_error 4 = .ok (.aload_n 0, 1) := by decide +kernel
theorem dX11_error_5 : decode cX11_error 5 = .ok (.iload_n 1, 1) := by decide +kernel
theorem dX11_error_6 : decode cX11_error 6 = .ok (.invokevirtual 178, 3) := by decide +kernel
theorem dX11_error_9 : decode cX11_error 9 = .ok (.invokevirtual 187, 3) := by decide +kernel
theorem dX11_error_12 : decode cX11_error 12 = .ok (.getfield 191, 3) := by decide +kernel
theorem dX11_error_15 : decode cX11_error 15 = .ok (.ireturn, 1) := by decide +kernel
set_option maxRecDepth 20000 in
theorem ggX11_typeOf_X11_neededNode : GoodIn wsX11_typeOf wsX11_neededNode := goodIn_ca (goodIn_r _ [7, 8, 9, 10, 11, 12, 13, 14, 15, 16, 17, 18, 19, 20, 21, 22, 23, 24, 25, 26, 27, 28, 29, 30, 31, 32, 33, 34, 35, 484, 485, 486, 487, 488, 489, 497, 498, 499, 500, 501, 502, 503, 504, 505, 506, 507, 508, 509, 510, 511, 512, 513, 514, 515, 516, 517] rfl (by decide +kernel)) (goodIn_sub (fun _ h => List.mem_cons_of_mem _ (List.mem_append_left _ (List.mem_append_left _ (List.mem_append_right _ h)))) (by decide +kernel))
set_option maxRecDepth 20000 in
theorem gX11_typeOf_X11_neededNode : GoodIn wsX11_typeOf (wsV RX11 178 RX11 yX11_neededNode wsX11_neededNode) := goodIn_app (goodIn_of _ (by decide +kernel)) ggX11_typeOf_X11_neededNode
