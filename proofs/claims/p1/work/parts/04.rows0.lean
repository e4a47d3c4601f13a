theorem dX0_init_0 : decode cX0_init 0 = .ok (.aload_n 0, 1) := by decide +kernel
theorem dX0_init_1 : decode cX0_init 1 = .ok (.invokespecial 3, 3) := by decide +kernel
theorem dX0_init_4 : decode cX0_init 4 = .ok (.aload_n 0, 1) := by decide +kernel
theorem dX0_init_5 : decode cX0_init 5 = .ok (.bipush 6, 2) := by decide +kernel
theorem dX0_init_7 : decode cX0_init 7 = .ok (.newarray .int, 2) := by decide +kernel
theorem dX0_init_9 : decode cX0_init 9 = .ok (.putfield 9, 3) := by decide +kernel
theorem dX0_init_12 : decode cX0_init 12 = .ok (.aload_n 0, 1) := by decide +kernel
theorem dX0_init_13 : decode cX0_init 13 = .ok (.bipush 10, 2) := by decide +kernel
theorem dX0_init_15 : decode cX0_init 15 = .ok (.newarray .int, 2) := by decide +kernel
theorem dX0_init_17 : decode cX0_init 17 = .ok (.putfield 15, 3) := by decide +kernel
theorem dX0_init_20 : decode cX0_init 20 = .ok (.aload_n 0, 1) := by decide +kernel
theorem dX0_init_21 : decode cX0_init 21 = .ok (.bipush 16, 2) := by decide +kernel
theorem dX0_init_23 : decode cX0_init 23 = .ok (.iconst 4, 1) := by decide +kernel
theorem dX0_init_24 : decode cX0_init 24 = .ok (.multianewarray 18 2, 4) := by decide +kernel
theorem dX0_init_28 : decode cX0_init 28 = .ok (.putfield 20, 3) := by decide +kernel
theorem dX0_init_31 : decode cX0_init 31 = .ok (.aload_n 0, 1) := by decide +kernel
theorem dX0_init_32 : decode cX0_init 32 = .ok (.bipush 16, 2) := by decide +kernel
theorem dX0_init_34 : decode cX0_init 34 = .ok (.newarray .int, 2) := by decide +kernel
theorem dX0_init_36 : decode cX0_init 36 = .ok (.putfield 23, 3) := by decide +kernel
theorem dX0_init_39 : decode cX0_init 39 = .ok (.aload_n 0, 1) := by decide +kernel
theorem dX0_init_40 : decode cX0_init 40 = .ok (.bipush 10, 2) := by decide +kernel
theorem dX0_init_42 : decode cX0_init 42 = .ok (.newarray .boolean, 2) := by decide +kernel
theorem dX0_init_44 : decode cX0_init 44 = .ok (.putfield 26, 3) := by decide +kernel
theorem dX0_init_47 : decode cX0_init 47 = .ok (.aload_n 0, 1) := by decide +kernel
theorem dX0_init_48 : decode cX0_init 48 = .ok (.bipush 10, 2) := by decide +kernel
theorem dX0_init_50 : decode cX0_init 50 = .ok (.newarray .int, 2) := by decide +kernel
theorem dX0_init_52 : decode cX0_init 52 = .ok (.putfield 30, 3) := by decide +kernel
theorem dX0_init_55 : decode cX0_init 55 = .ok (.return_, 1) := by decide +kernel
theorem dX1_init_0 : decode cX1_init 0 = .ok (.aload_n 0, 1) := by decide +kernel
theorem dX1_init_1 : decode cX1_init 1 = .ok (.invokespecial 3, 3) := by decide +kernel
theorem dX1_init_4 : decode cX1_init 4 = .ok (.aload_n 0, 1) := by decide +kernel
theorem dX1_init_5 : decode cX1_init 5 = .ok (.bipush 6, 2) := by decide +kernel
theorem dX1_init_7 : decode cX1_init 7 = .ok (.sipush 200, 3) := by decide +kernel
theorem dX1_init_10 : decode cX1_init 10 = .ok (.multianewarray 9 2, 4) := by decide +kernel
theorem dX1_init_14 : decode cX1_init 14 = .ok (.putfield 11, 3) := by decide +kernel
theorem dX1_init_17 : decode cX1_init 17 = .ok (.aload_n 0, 1) := by decide +kernel
theorem dX1_init_18 : decode cX1_init 18 = .ok (.bipush 6, 2) := by decide +kernel
theorem dX1_init_20 : decode cX1_init 20 = .ok (.newarray .int, 2) := by decide +kernel
theorem dX1_init_22 : decode cX1_init 22 = .ok (.putfield 16, 3) := by decide +kernel
theorem dX1_init_25 : decode cX1_init 25 = .ok (.aload_n 0, 1) := by decide +kernel
theorem dX1_init_26 : decode cX1_init 26 = .ok (.bipush 6, 2) := by decide +kernel
theorem dX1_init_28 : decode cX1_init 28 = .ok (.newarray .int, 2) := by decide +kernel
theorem dX1_init_30 : decode cX1_init 30 = .ok (.putfield 20, 3) := by decide +kernel
theorem dX1_init_33 : decode cX1_init 33 = .ok (.aload_n 0, 1) := by decide +kernel
theorem dX1_init_34 : decode cX1_init 34 = .ok (.bipush 6, 2) := by decide +kernel
theorem dX1_init_36 : decode cX1_init 36 = .ok (.sipush 200, 3) := by decide +kernel
theorem dX1_init_39 : decode cX1_init 39 = .ok (.multianewarray 9 2, 4) := by decide +kernel
theorem dX1_init_43 : decode cX1_init 43 = .ok (.putfield 23, 3) := by decide +kernel
theorem dX1_init_46 : decode cX1_init 46 = .ok (.aload_n 0, 1) := by decide +kernel
theorem dX1_init_47 : decode cX1_init 47 = .ok (.bipush 6, 2) := by decide +kernel
theorem dX1_init_49 : decode cX1_init 49 = .ok (.newarray .int, 2) := by decide +kernel
theorem dX1_init_51 : decode cX1_init 51 = .ok (.putfield 26, 3) := by decide +kernel
theorem dX1_init_54 : decode cX1_init 54 = .ok (.return_, 1) := by decide +kernel
theorem dX2_init_0 : decode cX2_init 0 = .ok (.aload_n 0, 1) := by decide +kernel
theorem dX2_init_1 : decode cX2_init 1 = .ok (.invokespecial 3, 3) := by decide +kernel
theorem dX2_init_4 : decode cX2_init 4 = .ok (.aload_n 0, 1) := by decide +kernel
theorem dX2_init_5 : decode cX2_init 5 = .ok (.new 9, 3) := by decide +kernel
theorem dX2_init_8 : decode cX2_init 8 = .ok (.dup, 1) := by decide +kernel
theorem dX2_init_9 : decode cX2_init 9 = .ok (.invokespecial 11, 3) := by decide +kernel
theorem dX2_init_12 : decode cX2_init 12 = .ok (.putfield 12, 3) := by decide +kernel
theorem dX2_init_15 : decode cX2_init 15 = .ok (.aload_n 0, 1) := by decide +kernel
theorem dX2_init_16 : decode cX2_init 16 = .ok (.new 18, 3) := by decide +kernel
theorem dX2_init_19 : decode cX2_init 19 = .ok (.dup, 1) := by decide +kernel
theorem dX2_init_20 : decode cX2_init 20 = .ok (.invokespecial 20, 3) := by decide +kernel
theorem dX2_init_23 : decode cX2_init 23 = .ok (.putfield 21, 3) := by decide +kernel
theorem dX2_init_26 : decode cX2_init 26 = .ok (.aload_n 0, 1) := by decide +kernel
theorem dX2_init_27 : decode cX2_init 27 = .ok (.new 18, 3) := by decide +kernel
theorem dX2_init_30 : decode cX2_init 30 = .ok (.dup, 1) := by decide +kernel
theorem dX2_init_31 : decode cX2_init 31 = .ok (.invokespecial 20, 3) := by decide +kernel
theorem dX2_init_34 : decode cX2_init 34 = .ok (.putfield 25, 3) := by decide +kernel
theorem dX2_init_37 : decode cX2_init 37 = .ok (.aload_n 0, 1) := by decide +kernel
theorem dX2_init_38 : decode cX2_init 38 = .ok (.new 28, 3) := by decide +kernel
theorem dX2_init_41 : decode cX2_init 41 = .ok (.dup, 1) := by decide +kernel
theorem dX2_init_42 : decode cX2_init 42 = .ok (.invokespecial 30, 3) := by decide +kernel
theorem dX2_init_45 : decode cX2_init 45 = .ok (.putfield 31, 3) := by decide +kernel
theorem dX2_init_48 : decode cX2_init 48 = .ok (.aload_n 0, 1) := by decide +kernel
theorem dX2_init_49 : decode cX2_init 49 = .ok (.sipush 200, 3) := by decide +kernel
theorem dX2_init_52 : decode cX2_init 52 = .ok (.newarray .int, 2) := by decide +kernel
theorem dX2_init_54 : decode cX2_init 54 = .ok (.putfield 35, 3) := by decide +kernel
theorem dX2_init_57 : decode cX2_init 57 = .ok (.aload_n 0, 1) := by decide +kernel
theorem dX2_init_58 : decode cX2_init 58 = .ok (.sipush 200, 3) := by decide +kernel
theorem dX2_init_61 : decode cX2_init 61 = .ok (.newarray .int, 2) := by decide +kernel
theorem dX2_init_63 : decode cX2_init 63 = .ok (.putfield 39, 3) := by decide +kernel
theorem dX2_init_66 : decode cX2_init 66 = .ok (.aload_n 0, 1) := by decide +kernel
theorem dX2_init_67 : decode cX2_init 67 = .ok (.aload_n 1, 1) := by decide +kernel
theorem dX2_init_68 : decode cX2_init 68 = .ok (.putfield 42, 3) := by decide +kernel
theorem dX2_init_71 : decode cX2_init 71 = .ok (.aload_n 0, 1) := by decide +kernel
theorem dX2_init_72 : decode cX2_init 72 = .ok (.new 46, 3) := by decide +kernel
theorem dX2_init_75 : decode cX2_init 75 = .ok (.dup, 1) := by decide +kernel
theorem dX2_init_76 : decode cX2_init 76 = .ok (.aload_n 1, 1) := by decide +kernel
theorem dX2_init_77 : decode cX2_init 77 = .ok (.aload_n 0, 1) := by decide +kernel
theorem dX2_init_78 : decode cX2_init 78 = .ok (.getfield 21, 3) := by decide +kernel
theorem dX2_init_81 : decode cX2_init 81 = .ok (.invokespecial 48, 3) := by decide +kernel
theorem dX2_init_84 : decode cX2_init 84 = .ok (.putfield 51, 3) := by decide +kernel
theorem dX2_init_87 : decode cX2_init 87 = .ok (.return_, 1) := by decide +kernel
theorem dX3_init_0 : decode cX3_init 0 = .ok (.aload_n 0, 1) := by decide +kernel
theorem dX3_init_1 : decode cX3_init 1 = .ok (.invokespecial 3, 3) := by decide +kernel
theorem dX3_init_4 : decode cX3_init 4 = .ok (.aload_n 0, 1) := by decide +kernel
theorem dX3_init_5 : decode cX3_init 5 = .ok (.sipush 240, 3) := by decide +kernel
theorem dX3_init_8 : decode cX3_init 8 = .ok (.newarray .int, 2) := by decide +kernel
theorem dX3_init_10 : decode cX3_init 10 = .ok (.putfield 11, 3) := by decide +kernel
theorem dX3_init_13 : decode cX3_init 13 = .ok (.aload_n 0, 1) := by decide +kernel
theorem dX3_init_14 : decode cX3_init 14 = .ok (.sipush 240, 3) := by decide +kernel
theorem dX3_init_17 : decode cX3_init 17 = .ok (.newarray .int, 2) := by decide +kernel
theorem dX3_init_19 : decode cX3_init 19 = .ok (.putfield 15, 3) := by decide +kernel
theorem dX3_init_22 : decode cX3_init 22 = .ok (.aload_n 0, 1) := by decide +kernel
theorem dX3_init_23 : decode cX3_init 23 = .ok (.sipush 240, 3) := by decide +kernel
theorem dX3_init_26 : decode cX3_init 26 = .ok (.newarray .int, 2) := by decide +kernel
theorem dX3_init_28 : decode cX3_init 28 = .ok (.putfield 18, 3) := by decide +kernel
theorem dX3_init_31 : decode cX3_init 31 = .ok (.aload_n 0, 1) := by decide +kernel
theorem dX3_init_32 : decode cX3_init 32 = .ok (.sipush 240, 3) := by decide +kernel
theorem dX3_init_35 : decode cX3_init 35 = .ok (.newarray .int, 2) := by decide +kernel
theorem dX3_init_37 : decode cX3_init 37 = .ok (.putfield 21, 3) := by decide +kernel
theorem dX3_init_40 : decode cX3_init 40 = .ok (.aload_n 0, 1) := by decide +kernel
theorem dX3_init_41 : decode cX3_init 41 = .ok (.sipush 240, 3) := by decide +kernel
theorem dX3_init_44 : decode cX3_init 44 = .ok (.newarray .int, 2) := by decide +kernel
theorem dX3_init_46 : decode cX3_init 46 = .ok (.putfield 24, 3) := by decide +kernel
theorem dX3_init_49 : decode cX3_init 49 = .ok (.aload_n 0, 1) := by decide +kernel
theorem dX3_init_50 : decode cX3_init 50 = .ok (.sipush 240, 3) := by decide +kernel
theorem dX3_init_53 : decode cX3_init 53 = .ok (.newarray .boolean, 2) := by decide +kernel
theorem dX3_init_55 : decode cX3_init 55 = .ok (.putfield 27, 3) := by decide +kernel
theorem dX3_init_58 : decode cX3_init 58 = .ok (.aload_n 0, 1) := by decide +kernel
theorem dX3_init_59 : decode cX3_init 59 = .ok (.sipush 240, 3) := by decide +kernel
theorem dX3_init_62 : decode cX3_init 62 = .ok (.newarray .int, 2) := by decide +kernel
theorem dX3_init_64 : decode cX3_init 64 = .ok (.putfield 31, 3) := by decide +kernel
theorem dX3_init_67 : decode cX3_init 67 = .ok (.aload_n 0, 1) := by decide +kernel
theorem dX3_init_68 : decode cX3_init 68 = .ok (.sipush 240, 3) := by decide +kernel
theorem dX3_init_71 : decode cX3_init 71 = .ok (.newarray .int, 2) := by decide +kernel
theorem dX3_init_73 : decode cX3_init 73 = .ok (.putfield 34, 3) := by decide +kernel
theorem dX3_init_76 : decode cX3_init 76 = .ok (.aload_n 0, 1) := by decide +kernel
theorem dX3_init_77 : decode cX3_init 77 = .ok (.new 37, 3) := by decide +kernel
theorem dX3_init_80 : decode cX3_init 80 = .ok (.dup, 1) := by decide +kernel
theorem dX3_init_81 : decode cX3_init 81 = .ok (.invokespecial 39, 3) := by decide +kernel
theorem dX3_init_84 : decode cX3_init 84 = .ok (.putfield 40, 3) := by decide +kernel
theorem dX3_init_87 : decode cX3_init 87 = .ok (.aload_n 0, 1) := by decide +kernel
theorem dX3_init_88 : decode cX3_init 88 = .ok (.sipush 240, 3) := by decide +kernel
theorem dX3_init_91 : decode cX3_init 91 = .ok (.newarray .int, 2) := by decide +kernel
theorem dX3_init_93 : decode cX3_init 93 = .ok (.putfield 44, 3) := by decide +kernel
theorem dX3_init_96 : decode cX3_init 96 = .ok (.aload_n 0, 1) := by decide +kernel
theorem dX3_init_97 : decode cX3_init 97 = .ok (.bipush 10, 2) := by decide +kernel
theorem dX3_init_99 : decode cX3_init 99 = .ok (.newarray .int, 2) := by decide +kernel
theorem dX3_init_101 : decode cX3_init 101 = .ok (.putfield 47, 3) := by decide +kernel
theorem dX3_init_104 : decode cX3_init 104 = .ok (.aload_n 0, 1) := by decide +kernel
theorem dX3_init_105 : decode cX3_init 105 = .ok (.aload_n 1, 1) := by decide +kernel
theorem dX3_init_106 : decode cX3_init 106 = .ok (.putfield 50, 3) := by decide +kernel
theorem dX3_init_109 : decode cX3_init 109 = .ok (.return_, 1) := by decide +kernel
theorem dX5_init_0 : decode cX5_init 0 = .ok (.aload_n 0, 1) := by decide +kernel
theorem dX5_init_1 : decode cX5_init 1 = .ok (.invokespecial 3, 3) := by decide +kernel
theorem dX5_init_4 : decode cX5_init 4 = .ok (.aload_n 0, 1) := by decide +kernel
theorem dX5_init_5 : decode cX5_init 5 = .ok (.bipush 60, 2) := by decide +kernel
theorem dX5_init_7 : decode cX5_init 7 = .ok (.bipush 12, 2) := by decide +kernel
theorem dX5_init_9 : decode cX5_init 9 = .ok (.multianewarray 9 2, 4) := by decide +kernel
theorem dX5_init_13 : decode cX5_init 13 = .ok (.putfield 11, 3) := by decide +kernel
theorem dX5_init_16 : decode cX5_init 16 = .ok (.aload_n 0, 1) := by decide +kernel
theorem dX5_init_17 : decode cX5_init 17 = .ok (.bipush 60, 2) := by decide +kernel
theorem dX5_init_19 : decode cX5_init 19 = .ok (.newarray .int, 2) := by decide +kernel
theorem dX5_init_21 : decode cX5_init 21 = .ok (.putfield 16, 3) := by decide +kernel
theorem dX5_init_24 : decode cX5_init 24 = .ok (.aload_n 0, 1) := by decide +kernel
theorem dX5_init_25 : decode cX5_init 25 = .ok (.bipush 60, 2) := by decide +kernel
theorem dX5_init_27 : decode cX5_init 27 = .ok (.newarray .int, 2) := by decide +kernel
theorem dX5_init_29 : decode cX5_init 29 = .ok (.putfield 20, 3) := by decide +kernel
theorem dX5_init_32 : decode cX5_init 32 = .ok (.aload_n 0, 1) := by decide +kernel
theorem dX5_init_33 : decode cX5_init 33 = .ok (.bipush 60, 2) := by decide +kernel
theorem dX5_init_35 : decode cX5_init 35 = .ok (.newarray .int, 2) := by decide +kernel
theorem dX5_init_37 : decode cX5_init 37 = .ok (.putfield 23, 3) := by decide +kernel
theorem dX5_init_40 : decode cX5_init 40 = .ok (.aload_n 0, 1) := by decide +kernel
theorem dX5_init_41 : decode cX5_init 41 = .ok (.bipush 120, 2) := by decide +kernel
theorem dX5_init_43 : decode cX5_init 43 = .ok (.newarray .int, 2) := by decide +kernel
theorem dX5_init_45 : decode cX5_init 45 = .ok (.putfield 26, 3) := by decide +kernel
theorem dX5_init_48 : decode cX5_init 48 = .ok (.aload_n 0, 1) := by decide +kernel
theorem dX5_init_49 : decode cX5_init 49 = .ok (.bipush 120, 2) := by decide +kernel
theorem dX5_init_51 : decode cX5_init 51 = .ok (.newarray .int, 2) := by decide +kernel
theorem dX5_init_53 : decode cX5_init 53 = .ok (.putfield 29, 3) := by decide +kernel
theorem dX5_init_56 : decode cX5_init 56 = .ok (.aload_n 0, 1) := by decide +kernel
theorem dX5_init_57 : decode cX5_init 57 = .ok (.bipush 120, 2) := by decide +kernel
theorem dX5_init_59 : decode cX5_init 59 = .ok (.newarray .int, 2) := by decide +kernel
theorem dX5_init_61 : decode cX5_init 61 = .ok (.putfield 32, 3) := by decide +kernel
theorem dX5_init_64 : decode cX5_init 64 = .ok (.aload_n 0, 1) := by decide +kernel
theorem dX5_init_65 : decode cX5_init 65 = .ok (.bipush 120, 2) := by decide +kernel
theorem dX5_init_67 : decode cX5_init 67 = .ok (.newarray .int, 2) := by decide +kernel
theorem dX5_init_69 : decode cX5_init 69 = .ok (.putfield 35, 3) := by decide +kernel
theorem dX5_init_72 : decode cX5_init 72 = .ok (.aload_n 0, 1) := by decide +kernel
theorem dX5_init_73 : decode cX5_init 73 = .ok (.bipush 120, 2) := by decide +kernel
theorem dX5_init_75 : decode cX5_init 75 = .ok (.newarray .int, 2) := by decide +kernel
theorem dX5_init_77 : decode cX5_init 77 = .ok (.putfield 38, 3) := by decide +kernel
theorem dX5_init_80 : decode cX5_init 80 = .ok (.aload_n 0, 1) := by decide +kernel
theorem dX5_init_81 : decode cX5_init 81 = .ok (.bipush 120, 2) := by decide +kernel
theorem dX5_init_83 : decode cX5_init 83 = .ok (.newarray .int, 2) := by decide +kernel
theorem dX5_init_85 : decode cX5_init 85 = .ok (.putfield 41, 3) := by decide +kernel
theorem dX5_init_88 : decode cX5_init 88 = .ok (.aload_n 0, 1) := by decide +kernel
theorem dX5_init_89 : decode cX5_init 89 = .ok (.bipush 120, 2) := by decide +kernel
theorem dX5_init_91 : decode cX5_init 91 = .ok (.newarray .int, 2) := by decide +kernel
theorem dX5_init_93 : decode cX5_init 93 = .ok (.putfield 44, 3) := by decide +kernel
theorem dX5_init_96 : decode cX5_init 96 = .ok (.aload_n 0, 1) := by decide +kernel
theorem dX5_init_97 : decode cX5_init 97 = .ok (.bipush 40, 2) := by decide +kernel
theorem dX5_init_99 : decode cX5_init 99 = .ok (.anewarray 47, 3) := by decide +kernel
theorem dX5_init_102 : decode cX5_init 102 = .ok (.putfield 49, 3) := by decide +kernel
theorem dX5_init_105 : decode cX5_init 105 = .ok (.aload_n 0, 1) := by decide +kernel
theorem dX5_init_106 : decode cX5_init 106 = .ok (.bipush 8, 2) := by decide +kernel
theorem dX5_init_108 : decode cX5_init 108 = .ok (.newarray .int, 2) := by decide +kernel
theorem dX5_init_110 : decode cX5_init 110 = .ok (.putfield 53, 3) := by decide +kernel
theorem dX5_init_113 : decode cX5_init 113 = .ok (.aload_n 0, 1) := by decide +kernel
theorem dX5_init_114 : decode cX5_init 114 = .ok (.new 56, 3) := by decide +kernel
theorem dX5_init_117 : decode cX5_init 117 = .ok (.dup, 1) := by decide +kernel
theorem dX5_init_118 : decode cX5_init 118 = .ok (.invokespecial 58, 3) := by decide +kernel
theorem dX5_init_121 : decode cX5_init 121 = .ok (.putfield 59, 3) := by decide +kernel
theorem dX5_init_124 : decode cX5_init 124 = .ok (.iconst 0, 1) := by decide +kernel
theorem dX5_init_125 : decode cX5_init 125 = .ok (.istore_n 1, 1) := by decide +kernel
theorem dX5_init_126 : decode cX5_init 126 = .ok (.iload_n 1, 1) := by decide +kernel
theorem dX5_init_127 : decode cX5_init 127 = .ok (.aload_n 0, 1) := by decide +kernel
theorem dX5_init_128 : decode cX5_init 128 = .ok (.getfield 49, 3) := by decide +kernel
theorem dX5_init_131 : decode cX5_init 131 = .ok (.arraylength, 1) := by decide +kernel
theorem dX5_init_132 : decode cX5_init 132 = .ok (.if_icmp .ge 22, 3) := by decide +kernel
theorem dX5_init_135 : decode cX5_init 135 = .ok (.aload_n 0, 1) := by decide +kernel
theorem dX5_init_136 : decode cX5_init 136 = .ok (.getfield 49, 3) := by decide +kernel
theorem dX5_init_139 : decode cX5_init 139 = .ok (.iload_n 1, 1) := by decide +kernel
theorem dX5_init_140 : decode cX5_init 140 = .ok (.new 47, 3) := by decide +kernel
theorem dX5_init_143 : decode cX5_init 143 = .ok (.dup, 1) := by decide +kernel
theorem dX5_init_144 : decode cX5_init 144 = .ok (.invokespecial 63, 3) := by decide +kernel
theorem dX5_init_147 : decode cX5_init 147 = .ok (.aastore, 1) := by decide +kernel
theorem dX5_init_148 : decode cX5_init 148 = .ok (.iinc 1 1, 3) := by decide +kernel
theorem dX5_init_151 : decode cX5_init 151 = .ok (.goto (-25), 3) := by decide +kernel
theorem dX5_init_154 : decode cX5_init 154 = .ok (.return_, 1) := by decide +kernel
theorem dX5_addSmallType_0 : decode cX5_addSmallType 0 = .ok (.aload_n 0, 1) := by decide +kernel
theorem dX5_addSmallType_1 : decode cX5_addSmallType 1 = .ok (.getfield 11, 3) := by decide +kernel
theorem dX5_addSmallType_4 : decode cX5_addSmallType 4 = .ok (.aload_n 0, 1) := by decide +kernel
theorem dX5_addSmallType_5 : decode cX5_addSmallType 5 = .ok (.getfield 64, 3) := by decide +kernel
theorem dX5_addSmallType_8 : decode cX5_addSmallType 8 = .ok (.aaload, 1) := by decide +kernel
theorem dX5_addSmallType_9 : decode cX5_addSmallType 9 = .ok (.iconst 0, 1) := by decide +kernel
theorem dX5_addSmallType_10 : decode cX5_addSmallType 10 = .ok (.iload_n 1, 1) := by decide +kernel
theorem dX5_addSmallType_11 : decode cX5_addSmallType 11 = .ok (.iastore, 1) := by decide +kernel
theorem dX5_addSmallType_12 : decode cX5_addSmallType 12 = .ok (.aload_n 0, 1) := by decide +kernel
theorem dX5_addSmallType_13 : decode cX5_addSmallType 13 = .ok (.getfield 20, 3) := by decide +kernel
theorem dX5_addSmallType_16 : decode cX5_addSmallType 16 = .ok (.aload_n 0, 1) := by decide +kernel
theorem dX5_addSmallType_17 : decode cX5_addSmallType 17 = .ok (.getfield 64, 3) := by decide +kernel
theorem dX5_addSmallType_20 : decode cX5_addSmallType 20 = .ok (.iload_n 1, 1) := by decide +kernel
theorem dX5_addSmallType_21 : decode cX5_addSmallType 21 = .ok (.ifCond .ne 7, 3) := by decide +kernel
theorem dX5_addSmallType_24 : decode cX5_addSmallType 24 = .ok (.iconst 0, 1) := by decide +kernel
theorem dX5_addSmallType_25 : decode cX5_addSmallType 25 = .ok (.goto 8, 3) := by decide +kernel
theorem dX5_addSmallType_28 : decode cX5_addSmallType 28 = .ok (.iconst 1, 1) := by decide +kernel
theorem dX5_addSmallType_29 : decode cX5_addSmallType 29 = .ok (.iload_n 1, 1) := by decide +kernel
theorem dX5_addSmallType_30 : decode cX5_addSmallType 30 = .ok (.iconst 2, 1) := by decide +kernel
theorem dX5_addSmallType_31 : decode cX5_addSmallType 31 = .ok (.isub, 1) := by decide +kernel
theorem dX5_addSmallType_32 : decode cX5_addSmallType 32 = .ok (.ishl, 1) := by decide +kernel
theorem dX5_addSmallType_33 : decode cX5_addSmallType 33 = .ok (.iastore, 1) := by decide +kernel
theorem dX5_addSmallType_34 : decode cX5_addSmallType 34 = .ok (.aload_n 0, 1) := by decide +kernel
theorem dX5_addSmallType_35 : decode cX5_addSmallType 35 = .ok (.iconst 1, 1) := by decide +kernel
theorem dX5_addSmallType_36 : decode cX5_addSmallType 36 = .ok (.invokevirtual 68, 3) := by decide +kernel
theorem dX5_addSmallType_39 : decode cX5_addSmallType 39 = .ok (.ireturn, 1) := by decide +kernel
theorem dX5_endType_0 : decode cX5_endType 0 = .ok (.aload_n 0, 1) := by decide +kernel
theorem dX5_endType_1 : decode cX5_endType 1 = .ok (.getfield 64, 3) := by decide +kernel
theorem dX5_endType_4 : decode cX5_endType 4 = .ok (.istore_n 2, 1) := by decide +kernel
theorem dX5_endType_5 : decode cX5_endType 5 = .ok (.aload_n 0, 1) := by decide +kernel
theorem dX5_endType_6 : decode cX5_endType 6 = .ok (.getfield 16, 3) := by decide +kernel
theorem dX5_endType_9 : decode cX5_endType 9 = .ok (.iload_n 2, 1) := by decide +kernel
theorem dX5_endType_10 : decode cX5_endType 10 = .ok (.iload_n 1, 1) := by decide +kernel
theorem dX5_endType_11 : decode cX5_endType 11 = .ok (.iastore, 1) := by decide +kernel
theorem dX5_endType_12 : decode cX5_endType 12 = .ok (.aload_n 0, 1) := by decide +kernel
theorem dX5_endType_13 : decode cX5_endType 13 = .ok (.getfield 23, 3) := by decide +kernel
theorem dX5_endType_16 : decode cX5_endType 16 = .ok (.iload_n 2, 1) := by decide +kernel
theorem dX5_endType_17 : decode cX5_endType 17 = .ok (.iload_n 2, 1) := by decide +kernel
theorem dX5_endType_18 : decode cX5_endType 18 = .ok (.iastore, 1) := by decide +kernel
theorem dX5_endType_19 : decode cX5_endType 19 = .ok (.iconst 0, 1) := by decide +kernel
theorem dX5_endType_20 : decode cX5_endType 20 = .ok (.istore_n 3, 1) := by decide +kernel
theorem dX5_endType_21 : decode cX5_endType 21 = .ok (.iload_n 3, 1) := by decide +kernel
theorem dX5_endType_22 : decode cX5_endType 22 = .ok (.iload_n 2, 1) := by decide +kernel
theorem dX5_endType_23 : decode cX5_endType 23 = .ok (.if_icmp .ge 51, 3) := by decide +kernel
theorem dX5_endType_74 : decode cX5_endType 74 = .ok (.aload_n 0, 1) := by decide +kernel
theorem dX5_endType_75 : decode cX5_endType 75 = .ok (.dup, 1) := by decide +kernel
theorem dX5_endType_76 : decode cX5_endType 76 = .ok (.getfield 64, 3) := by decide +kernel
theorem dX5_endType_79 : decode cX5_endType 79 = .ok (.iconst 1, 1) := by decide +kernel
theorem dX5_endType_80 : decode cX5_endType 80 = .ok (.iadd, 1) := by decide +kernel
theorem dX5_endType_81 : decode cX5_endType 81 = .ok (.putfield 64, 3) := by decide +kernel
theorem dX5_endType_84 : decode cX5_endType 84 = .ok (.iload_n 2, 1) := by decide +kernel
theorem dX5_endType_85 : decode cX5_endType 85 = .ok (.ireturn, 1) := by decide +kernel
theorem dX5_addLeaf_0 : decode cX5_addLeaf 0 = .ok (.aload_n 0, 1) := by decide +kernel
theorem dX5_addLeaf_1 : decode cX5_addLeaf 1 = .ok (.getfield 26, 3) := by decide +kernel
theorem dX5_addLeaf_4 : decode cX5_addLeaf 4 = .ok (.aload_n 0, 1) := by decide +kernel
theorem dX5_addLeaf_5 : decode cX5_addLeaf 5 = .ok (.getfield 82, 3) := by decide +kernel
theorem dX5_addLeaf_8 : decode cX5_addLeaf 8 = .ok (.iload_n 1, 1) := by decide +kernel
theorem dX5_addLeaf_9 : decode cX5_addLeaf 9 = .ok (.iastore, 1) := by decide +kernel
theorem dX5_addLeaf_10 : decode cX5_addLeaf 10 = .ok (.aload_n 0, 1) := by decide +kernel
theorem dX5_addLeaf_11 : decode cX5_addLeaf 11 = .ok (.getfield 29, 3) := by decide +kernel
theorem dX5_addLeaf_14 : decode cX5_addLeaf 14 = .ok (.aload_n 0, 1) := by decide +kernel
theorem dX5_addLeaf_15 : decode cX5_addLeaf 15 = .ok (.getfield 82, 3) := by decide +kernel
theorem dX5_addLeaf_18 : decode cX5_addLeaf 18 = .ok (.iload_n 2, 1) := by decide +kernel
theorem dX5_addLeaf_19 : decode cX5_addLeaf 19 = .ok (.iastore, 1) := by decide +kernel
theorem dX5_addLeaf_20 : decode cX5_addLeaf 20 = .ok (.aload_n 0, 1) := by decide +kernel
theorem dX5_addLeaf_21 : decode cX5_addLeaf 21 = .ok (.getfield 32, 3) := by decide +kernel
theorem dX5_addLeaf_24 : decode cX5_addLeaf 24 = .ok (.aload_n 0, 1) := by decide +kernel
theorem dX5_addLeaf_25 : decode cX5_addLeaf 25 = .ok (.getfield 82, 3) := by decide +kernel
theorem dX5_addLeaf_28 : decode cX5_addLeaf 28 = .ok (.iconst (-1), 1) := by decide +kernel
theorem dX5_addLeaf_29 : decode cX5_addLeaf 29 = .ok (.iastore, 1) := by decide +kernel
theorem dX5_addLeaf_30 : decode cX5_addLeaf 30 = .ok (.aload_n 0, 1) := by decide +kernel
theorem dX5_addLeaf_31 : decode cX5_addLeaf 31 = .ok (.getfield 35, 3) := by decide +kernel
theorem dX5_addLeaf_34 : decode cX5_addLeaf 34 = .ok (.aload_n 0, 1) := by decide +kernel
theorem dX5_addLeaf_35 : decode cX5_addLeaf 35 = .ok (.getfield 82, 3) := by decide +kernel
theorem dX5_addLeaf_38 : decode cX5_addLeaf 38 = .ok (.iconst (-1), 1) := by decide +kernel
theorem dX5_addLeaf_39 : decode cX5_addLeaf 39 = .ok (.iastore, 1) := by decide +kernel
theorem dX5_addLeaf_40 : decode cX5_addLeaf 40 = .ok (.aload_n 0, 1) := by decide +kernel
theorem dX5_addLeaf_41 : decode cX5_addLeaf 41 = .ok (.getfield 38, 3) := by decide +kernel
theorem dX5_addLeaf_44 : decode cX5_addLeaf 44 = .ok (.aload_n 0, 1) := by decide +kernel
theorem dX5_addLeaf_45 : decode cX5_addLeaf 45 = .ok (.getfield 82, 3) := by decide +kernel
theorem dX5_addLeaf_48 : decode cX5_addLeaf 48 = .ok (.iconst 1, 1) := by decide +kernel
theorem dX5_addLeaf_49 : decode cX5_addLeaf 49 = .ok (.iastore, 1) := by decide +kernel
theorem dX5_addLeaf_50 : decode cX5_addLeaf 50 = .ok (.aload_n 0, 1) := by decide +kernel
theorem dX5_addLeaf_51 : decode cX5_addLeaf 51 = .ok (.getfield 41, 3) := by decide +kernel
theorem dX5_addLeaf_54 : decode cX5_addLeaf 54 = .ok (.aload_n 0, 1) := by decide +kernel
theorem dX5_addLeaf_55 : decode cX5_addLeaf 55 = .ok (.getfield 82, 3) := by decide +kernel
theorem dX5_addLeaf_58 : decode cX5_addLeaf 58 = .ok (.iload_n 1, 1) := by decide +kernel
theorem dX5_addLeaf_59 : decode cX5_addLeaf 59 = .ok (.bipush 6, 2) := by decide +kernel
theorem dX5_addLeaf_61 : decode cX5_addLeaf 61 = .ok (.if_icmp .ne 9, 3) := by decide +kernel
theorem dX5_addLeaf_64 : decode cX5_addLeaf 64 = .ok (.iconst 1, 1) := by decide +kernel
theorem dX5_addLeaf_65 : decode cX5_addLeaf 65 = .ok (.iload_n 2, 1) := by decide +kernel
theorem dX5_addLeaf_66 : decode cX5_addLeaf 66 = .ok (.ishl, 1) := by decide +kernel
theorem dX5_addLeaf_67 : decode cX5_addLeaf 67 = .ok (.goto 4, 3) := by decide +kernel
theorem dX5_addLeaf_70 : decode cX5_addLeaf 70 = .ok (.iconst 0, 1) := by decide +kernel
theorem dX5_addLeaf_71 : decode cX5_addLeaf 71 = .ok (.iastore, 1) := by decide +kernel
theorem dX5_addLeaf_72 : decode cX5_addLeaf 72 = .ok (.aload_n 0, 1) := by decide +kernel
theorem dX5_addLeaf_73 : decode cX5_addLeaf 73 = .ok (.invokevirtual 85, 3) := by decide +kernel
theorem dX5_addLeaf_76 : decode cX5_addLeaf 76 = .ok (.ireturn, 1) := by decide +kernel
theorem dX5_endExpression_0 : decode cX5_endExpression 0 = .ok (.aload_n 0, 1) := by decide +kernel
theorem dX5_endExpression_1 : decode cX5_endExpression 1 = .ok (.getfield 82, 3) := by decide +kernel
theorem dX5_endExpression_4 : decode cX5_endExpression 4 = .ok (.istore_n 1, 1) := by decide +kernel
theorem dX5_endExpression_5 : decode cX5_endExpression 5 = .ok (.aload_n 0, 1) := by decide +kernel
theorem dX5_endExpression_6 : decode cX5_endExpression 6 = .ok (.getfield 44, 3) := by decide +kernel
theorem dX5_endExpression_9 : decode cX5_endExpression 9 = .ok (.iload_n 1, 1) := by decide +kernel
theorem dX5_endExpression_10 : decode cX5_endExpression 10 = .ok (.iload_n 1, 1) := by decide +kernel
theorem dX5_endExpression_11 : decode cX5_endExpression 11 = .ok (.iastore, 1) := by decide +kernel
theorem dX5_endExpression_12 : decode cX5_endExpression 12 = .ok (.iconst 0, 1) := by decide +kernel
theorem dX5_endExpression_13 : decode cX5_endExpression 13 = .ok (.istore_n 2, 1) := by decide +kernel
theorem dX5_endExpression_14 : decode cX5_endExpression 14 = .ok (.iload_n 2, 1) := by decide +kernel
theorem dX5_endExpression_15 : decode cX5_endExpression 15 = .ok (.iload_n 1, 1) := by decide +kernel
theorem dX5_endExpression_16 : decode cX5_endExpression 16 = .ok (.if_icmp .ge 86, 3) := by decide +kernel
theorem dX5_endExpression_102 : decode cX5_endExpression 102 = .ok (.aload_n 0, 1) := by decide +kernel
theorem dX5_endExpression_103 : decode cX5_endExpression 103 = .ok (.dup, 1) := by decide +kernel
theorem dX5_endExpression_104 : decode cX5_endExpression 104 = .ok (.getfield 82, 3) := by decide +kernel
theorem dX5_endExpression_107 : decode cX5_endExpression 107 = .ok (.iconst 1, 1) := by decide +kernel
theorem dX5_endExpression_108 : decode cX5_endExpression 108 = .ok (.iadd, 1) := by decide +kernel
theorem dX5_endExpression_109 : decode cX5_endExpression 109 = .ok (.putfield 82, 3) := by decide +kernel
theorem dX5_endExpression_112 : decode cX5_endExpression 112 = .ok (.iload_n 1, 1) := by decide +kernel
theorem dX5_endExpression_113 : decode cX5_endExpression 113 = .ok (.ireturn, 1) := by decide +kernel
theorem dX5_addUnit_0 : decode cX5_addUnit 0 = .ok (.aload_n 0, 1) := by decide +kernel
theorem dX5_addUnit_1 : decode cX5_addUnit 1 = .ok (.dup, 1) := by decide +kernel
theorem dX5_addUnit_2 : decode cX5_addUnit 2 = .ok (.getfield 93, 3) := by decide +kernel
theorem dX5_addUnit_5 : decode cX5_addUnit 5 = .ok (.iconst 1, 1) := by decide +kernel
theorem dX5_addUnit_6 : decode cX5_addUnit 6 = .ok (.iadd, 1) := by decide +kernel
theorem dX5_addUnit_7 : decode cX5_addUnit 7 = .ok (.putfield 93, 3) := by decide +kernel
theorem dX5_addUnit_10 : decode cX5_addUnit 10 = .ok (.aload_n 0, 1) := by decide +kernel
theorem dX5_addUnit_11 : decode cX5_addUnit 11 = .ok (.aload_n 0, 1) := by decide +kernel
theorem dX5_addUnit_12 : decode cX5_addUnit 12 = .ok (.getfield 93, 3) := by decide +kernel
theorem dX5_addUnit_15 : decode cX5_addUnit 15 = .ok (.iconst 1, 1) := by decide +kernel
theorem dX5_addUnit_16 : decode cX5_addUnit 16 = .ok (.isub, 1) := by decide +kernel
theorem dX5_addUnit_17 : decode cX5_addUnit 17 = .ok (.invokevirtual 96, 3) := by decide +kernel
theorem dX5_addUnit_20 : decode cX5_addUnit 20 = .ok (.pop, 1) := by decide +kernel
theorem dX5_addUnit_21 : decode cX5_addUnit 21 = .ok (.aload_n 0, 1) := by decide +kernel
theorem dX5_addUnit_22 : decode cX5_addUnit 22 = .ok (.getfield 93, 3) := by decide +kernel
theorem dX5_addUnit_25 : decode cX5_addUnit 25 = .ok (.iconst 1, 1) := by decide +kernel
theorem dX5_addUnit_26 : decode cX5_addUnit 26 = .ok (.isub, 1) := by decide +kernel
theorem dX5_addUnit_27 : decode cX5_addUnit 27 = .ok (.ireturn, 1) := by decide +kernel
theorem dX5_addVersion_0 : decode cX5_addVersion 0 = .ok (.aload_n 0, 1) := by decide +kernel
theorem dX5_addVersion_1 : decode cX5_addVersion 1 = .ok (.getfield 53, 3) := by decide +kernel
theorem dX5_addVersion_4 : decode cX5_addVersion 4 = .ok (.iload_n 1, 1) := by decide +kernel
theorem dX5_addVersion_5 : decode cX5_addVersion 5 = .ok (.iaload, 1) := by decide +kernel
theorem dX5_addVersion_6 : decode cX5_addVersion 6 = .ok (.istore_n 2, 1) := by decide +kernel
theorem dX5_addVersion_7 : decode cX5_addVersion 7 = .ok (.iload_n 2, 1) := by decide +kernel
theorem dX5_addVersion_8 : decode cX5_addVersion 8 = .ok (.ifCond .le 21, 3) := by decide +kernel
theorem dX5_addVersion_29 : decode cX5_addVersion 29 = .ok (.aload_n 0, 1) := by decide +kernel
theorem dX5_addVersion_30 : decode cX5_addVersion 30 = .ok (.getfield 53, 3) := by decide +kernel
theorem dX5_addVersion_33 : decode cX5_addVersion 33 = .ok (.iload_n 1, 1) := by decide +kernel
theorem dX5_addVersion_34 : decode cX5_addVersion 34 = .ok (.dup2, 1) := by decide +kernel
theorem dX5_addVersion_35 : decode cX5_addVersion 35 = .ok (.iaload, 1) := by decide +kernel
theorem dX5_addVersion_36 : decode cX5_addVersion 36 = .ok (.iconst 1, 1) := by decide +kernel
theorem dX5_addVersion_37 : decode cX5_addVersion 37 = .ok (.iadd, 1) := by decide +kernel
theorem dX5_addVersion_38 : decode cX5_addVersion 38 = .ok (.iastore, 1) := by decide +kernel
theorem dX5_addVersion_39 : decode cX5_addVersion 39 = .ok (.aload_n 0, 1) := by decide +kernel
theorem dX5_addVersion_40 : decode cX5_addVersion 40 = .ok (.dup, 1) := by decide +kernel
theorem dX5_addVersion_41 : decode cX5_addVersion 41 = .ok (.getfield 107, 3) := by decide +kernel
theorem dX5_addVersion_44 : decode cX5_addVersion 44 = .ok (.iconst 1, 1) := by decide +kernel
theorem dX5_addVersion_45 : decode cX5_addVersion 45 = .ok (.iadd, 1) := by decide +kernel
theorem dX5_addVersion_46 : decode cX5_addVersion 46 = .ok (.putfield 107, 3) := by decide +kernel
theorem dX5_addVersion_49 : decode cX5_addVersion 49 = .ok (.iload_n 2, 1) := by decide +kernel
theorem dX5_addVersion_50 : decode cX5_addVersion 50 = .ok (.ireturn, 1) := by decide +kernel
theorem dX6_init_0 : decode cX6_init 0 = .ok (.aload_n 0, 1) := by decide +kernel
theorem dX6_init_1 : decode cX6_init 1 = .ok (.invokespecial 3, 3) := by decide +kernel
theorem dX6_init_4 : decode cX6_init 4 = .ok (.aload_n 0, 1) := by decide +kernel
theorem dX6_init_5 : decode cX6_init 5 = .ok (.bipush 16, 2) := by decide +kernel
theorem dX6_init_7 : decode cX6_init 7 = .ok (.newarray .int, 2) := by decide +kernel
theorem dX6_init_9 : decode cX6_init 9 = .ok (.putfield 9, 3) := by decide +kernel
theorem dX6_init_12 : decode cX6_init 12 = .ok (.return_, 1) := by decide +kernel
theorem dX7_init_0 : decode cX7_init 0 = .ok (.aload_n 0, 1) := by decide +kernel
theorem dX7_init_1 : decode cX7_init 1 = .ok (.invokespecial 1, 3) := by decide +kernel
theorem dX7_init_4 : decode cX7_init 4 = .ok (.aload_n 0, 1) := by decide +kernel
theorem dX7_init_5 : decode cX7_init 5 = .ok (.sipush 320, 3) := by decide +kernel
theorem dX7_init_8 : decode cX7_init 8 = .ok (.newarray .int, 2) := by decide +kernel
theorem dX7_init_10 : decode cX7_init 10 = .ok (.putfield 9, 3) := by decide +kernel
theorem dX7_init_13 : decode cX7_init 13 = .ok (.aload_n 0, 1) := by decide +kernel
theorem dX7_init_14 : decode cX7_init 14 = .ok (.bipush 64, 2) := by decide +kernel
theorem dX7_init_16 : decode cX7_init 16 = .ok (.newarray .int, 2) := by decide +kernel
theorem dX7_init_18 : decode cX7_init 18 = .ok (.putfield 13, 3) := by decide +kernel
theorem dX7_init_21 : decode cX7_init 21 = .ok (.aload_n 0, 1) := by decide +kernel
theorem dX7_init_22 : decode cX7_init 22 = .ok (.getfield 13, 3) := by decide +kernel
theorem dX7_init_25 : decode cX7_init 25 = .ok (.iconst (-1), 1) := by decide +kernel
theorem dX7_init_26 : decode cX7_init 26 = .ok (.invokestatic 16, 3) := by decide +kernel
theorem dX7_init_29 : decode cX7_init 29 = .ok (.return_, 1) := by decide +kernel
theorem dX8_init_0 : decode cX8_init 0 = .ok (.aload_n 0, 1) := by decide +kernel
theorem dX8_init_1 : decode cX8_init 1 = .ok (.invokespecial 3, 3) := by decide +kernel
theorem dX8_init_4 : decode cX8_init 4 = .ok (.aload_n 0, 1) := by decide +kernel
theorem dX8_init_5 : decode cX8_init 5 = .ok (.sipush 200, 3) := by decide +kernel
theorem dX8_init_8 : decode cX8_init 8 = .ok (.newarray .int, 2) := by decide +kernel
theorem dX8_init_10 : decode cX8_init 10 = .ok (.putfield 9, 3) := by decide +kernel
theorem dX8_init_13 : decode cX8_init 13 = .ok (.aload_n 0, 1) := by decide +kernel
theorem dX8_init_14 : decode cX8_init 14 = .ok (.bipush 64, 2) := by decide +kernel
theorem dX8_init_16 : decode cX8_init 16 = .ok (.newarray .int, 2) := by decide +kernel
theorem dX8_init_18 : decode cX8_init 18 = .ok (.putfield 15, 3) := by decide +kernel
theorem dX8_init_21 : decode cX8_init 21 = .ok (.aload_n 0, 1) := by decide +kernel
theorem dX8_init_22 : decode cX8_init 22 = .ok (.aload_n 1, 1) := by decide +kernel
theorem dX8_init_23 : decode cX8_init 23 = .ok (.putfield 18, 3) := by decide +kernel
theorem dX8_init_26 : decode cX8_init 26 = .ok (.aload_n 0, 1) := by decide +kernel
theorem dX8_init_27 : decode cX8_init 27 = .ok (.aload_n 2, 1) := by decide +kernel
theorem dX8_init_28 : decode cX8_init 28 = .ok (.putfield 22, 3) := by decide +kernel
theorem dX8_init_31 : decode cX8_init 31 = .ok (.return_, 1) := by decide +kernel
theorem dX9_init_0 : decode cX9_init 0 = .ok (.aload_n 0, 1) := by decide +kernel
theorem dX9_init_1 : decode cX9_init 1 = .ok (.invokespecial 1, 3) := by decide +kernel
theorem dX9_init_4 : decode cX9_init 4 = .ok (.aload_n 0, 1) := by decide +kernel
theorem dX9_init_5 : decode cX9_init 5 = .ok (.bipush 32, 2) := by decide +kernel
theorem dX9_init_7 : decode cX9_init 7 = .ok (.newarray .int, 2) := by decide +kernel
theorem dX9_init_9 : decode cX9_init 9 = .ok (.putfield 7, 3) := by decide +kernel
theorem dX9_init_12 : decode cX9_init 12 = .ok (.aload_n 0, 1) := by decide +kernel
theorem dX9_init_13 : decode cX9_init 13 = .ok (.bipush 32, 2) := by decide +kernel
theorem dX9_init_15 : decode cX9_init 15 = .ok (.newarray .int, 2) := by decide +kernel
theorem dX9_init_17 : decode cX9_init 17 = .ok (.putfield 13, 3) := by decide +kernel
theorem dX9_init_20 : decode cX9_init 20 = .ok (.aload_n 0, 1) := by decide +kernel
theorem dX9_init_21 : decode cX9_init 21 = .ok (.bipush 32, 2) := by decide +kernel
theorem dX9_init_23 : decode cX9_init 23 = .ok (.newarray .long, 2) := by decide +kernel
theorem dX9_init_25 : decode cX9_init 25 = .ok (.putfield 16, 3) := by decide +kernel
theorem dX9_init_28 : decode cX9_init 28 = .ok (.aload_n 0, 1) := by decide +kernel
theorem dX9_init_29 : decode cX9_init 29 = .ok (.bipush 32, 2) := by decide +kernel
theorem dX9_init_31 : decode cX9_init 31 = .ok (.newarray .int, 2) := by decide +kernel
theorem dX9_init_33 : decode cX9_init 33 = .ok (.putfield 20, 3) := by decide +kernel
theorem dX9_init_36 : decode cX9_init 36 = .ok (.return_, 1) := by decide +kernel
theorem dX10_init_0 : decode cX10_init 0 = .ok (.aload_n 0, 1) := by decide +kernel
theorem dX10_init_1 : decode cX10_init 1 = .ok (.invokespecial 3, 3) := by decide +kernel
theorem dX10_init_4 : decode cX10_init 4 = .ok (.aload_n 0, 1) := by decide +kernel
theorem dX10_init_5 : decode cX10_init 5 = .ok (.bipush 6, 2) := by decide +kernel
theorem dX10_init_7 : decode cX10_init 7 = .ok (.newarray .int, 2) := by decide +kernel
theorem dX10_init_9 : decode cX10_init 9 = .ok (.putfield 9, 3) := by decide +kernel
theorem dX10_init_12 : decode cX10_init 12 = .ok (.aload_n 0, 1) := by decide +kernel
theorem dX10_init_13 : decode cX10_init 13 = .ok (.bipush 10, 2) := by decide +kernel
theorem dX10_init_15 : decode cX10_init 15 = .ok (.newarray .int, 2) := by decide +kernel
theorem dX10_init_17 : decode cX10_init 17 = .ok (.putfield 15, 3) := by decide +kernel
theorem dX10_init_20 : decode cX10_init 20 = .ok (.aload_n 0, 1) := by decide +kernel
theorem dX10_init_21 : decode cX10_init 21 = .ok (.bipush 10, 2) := by decide +kernel
theorem dX10_init_23 : decode cX10_init 23 = .ok (.newarray .int, 2) := by decide +kernel
theorem dX10_init_25 : decode cX10_init 25 = .ok (.putfield 18, 3) := by decide +kernel
theorem dX10_init_28 : decode cX10_init 28 = .ok (.aload_n 0, 1) := by decide +kernel
theorem dX10_init_29 : decode cX10_init 29 = .ok (.bipush 10, 2) := by decide +kernel
theorem dX10_init_31 : decode cX10_init 31 = .ok (.newarray .int, 2) := by decide +kernel
theorem dX10_init_33 : decode cX10_init 33 = .ok (.putfield 21, 3) := by decide +kernel
theorem dX10_init_36 : decode cX10_init 36 = .ok (.aload_n 0, 1) := by decide +kernel
theorem dX10_init_37 : decode cX10_init 37 = .ok (.getfield 9, 3) := by decide +kernel
theorem dX10_init_40 : decode cX10_init 40 = .ok (.bipush (-2), 2) := by decide +kernel
theorem dX10_init_42 : decode cX10_init 42 = .ok (.invokestatic 24, 3) := by decide +kernel
theorem dX10_init_45 : decode cX10_init 45 = .ok (.aload_n 0, 1) := by decide +kernel
theorem dX10_init_46 : decode cX10_init 46 = .ok (.getfield 15, 3) := by decide +kernel
theorem dX10_init_49 : decode cX10_init 49 = .ok (.bipush (-2), 2) := by decide +kernel
theorem dX10_init_51 : decode cX10_init 51 = .ok (.invokestatic 24, 3) := by decide +kernel
theorem dX10_init_54 : decode cX10_init 54 = .ok (.return_, 1) := by decide +kernel
theorem dX11_init_0 : decode cX11_init 0 = .ok (.aload_n 0, 1) := by decide +kernel
theorem dX11_init_1 : decode cX11_init 1 = .ok (.invokespecial 3, 3) := by decide +kernel
theorem dX11_init_4 : decode cX11_init 4 = .ok (.aload_n 0, 1) := by decide +kernel
theorem dX11_init_5 : decode cX11_init 5 = .ok (.new 9, 3) := by decide +kernel
theorem dX11_init_8 : decode cX11_init 8 = .ok (.dup, 1) := by decide +kernel
theorem dX11_init_9 : decode cX11_init 9 = .ok (.invokespecial 11, 3) := by decide +kernel
theorem dX11_init_12 : decode cX11_init 12 = .ok (.putfield 12, 3) := by decide +kernel
theorem dX11_init_15 : decode cX11_init 15 = .ok (.aload_n 0, 1) := by decide +kernel
theorem dX11_init_16 : decode cX11_init 16 = .ok (.new 16, 3) := by decide +kernel
theorem dX11_init_19 : decode cX11_init 19 = .ok (.dup, 1) := by decide +kernel
theorem dX11_init_20 : decode cX11_init 20 = .ok (.aload_n 0, 1) := by decide +kernel
theorem dX11_init_21 : decode cX11_init 21 = .ok (.getfield 12, 3) := by decide +kernel
theorem dX11_init_24 : decode cX11_init 24 = .ok (.invokespecial 18, 3) := by decide +kernel
theorem dX11_init_27 : decode cX11_init 27 = .ok (.putfield 21, 3) := by decide +kernel
theorem dX11_init_30 : decode cX11_init 30 = .ok (.aload_n 0, 1) := by decide +kernel
theorem dX11_init_31 : decode cX11_init 31 = .ok (.new 25, 3) := by decide +kernel
theorem dX11_init_34 : decode cX11_init 34 = .ok (.dup, 1) := by decide +kernel
theorem dX11_init_35 : decode cX11_init 35 = .ok (.invokespecial 27, 3) := by decide +kernel
theorem dX11_init_38 : decode cX11_init 38 = .ok (.putfield 28, 3) := by decide +kernel
theorem dX11_init_41 : decode cX11_init 41 = .ok (.aload_n 0, 1) := by decide +kernel
theorem dX11_init_42 : decode cX11_init 42 = .ok (.new 32, 3) := by decide +kernel
theorem dX11_init_45 : decode cX11_init 45 = .ok (.dup, 1) := by decide +kernel
theorem dX11_init_46 : decode cX11_init 46 = .ok (.aload_n 0, 1) := by decide +kernel
theorem dX11_init_47 : decode cX11_init 47 = .ok (.getfield 12, 3) := by decide +kernel
theorem dX11_init_50 : decode cX11_init 50 = .ok (.invokespecial 34, 3) := by decide +kernel
theorem dX11_init_53 : decode cX11_init 53 = .ok (.putfield 35, 3) := by decide +kernel
theorem dX11_init_56 : decode cX11_init 56 = .ok (.aload_n 0, 1) := by decide +kernel
theorem dX11_init_57 : decode cX11_init 57 = .ok (.new 32, 3) := by decide +kernel
theorem dX11_init_60 : decode cX11_init 60 = .ok (.dup, 1) := by decide +kernel
theorem dX11_init_61 : decode cX11_init 61 = .ok (.aload_n 0, 1) := by decide +kernel
theorem dX11_init_62 : decode cX11_init 62 = .ok (.getfield 12, 3) := by decide +kernel
theorem dX11_init_65 : decode cX11_init 65 = .ok (.invokespecial 34, 3) := by decide +kernel
theorem dX11_init_68 : decode cX11_init 68 = .ok (.putfield 39, 3) := by decide +kernel
theorem dX11_init_71 : decode cX11_init 71 = .ok (.return_, 1) := by decide +kernel
theorem dX11_type_0 : decode cX11_type 0 = .ok (.iload_n 1, 1) := by decide +kernel
theorem dX11_type_1 : decode cX11_type 1 = .ok (.ifCond .lt 8, 3) := by decide +kernel
theorem dX11_type_4 : decode cX11_type 4 = .ok (.iload_n 1, 1) := by decide +kernel
theorem dX11_type_5 : decode cX11_type 5 = .ok (.iconst 2, 1) := by decide +kernel
theorem dX11_type_6 : decode cX11_type 6 = .ok (.if_icmp .le 13, 3) := by decide +kernel
theorem dX11_type_9 : decode cX11_type 9 = .ok (.new 42, 3) := by decide +kernel
theorem dX11_type_12 : decode cX11_type 12 = .ok (.dup, 1) := by decide +kernel
theorem dX11_type_13 : decode cX11_type 13 = .ok (.ldc 44, 2) := by decide +kernel
theorem dX11_type_15 : decode cX11_type 15 = .ok (.invokespecial 46, 3) := by decide +kernel
theorem dX11_type_18 : decode cX11_type 18 = .ok (.athrow, 1) := by decide +kernel
theorem dX11_type_19 : decode cX11_type 19 = .ok (.iload_n 1, 1) := by decide +kernel
theorem dX11_type_20 : decode cX11_type 20 = .ok (.iconst 2, 1) := by decide +kernel
theorem dX11_type_21 : decode cX11_type 21 = .ok (.if_icmp .ne 20, 3) := by decide +kernel
theorem dX11_type_24 : decode cX11_type 24 = .ok (.iload_n 2, 1) := by decide +kernel
theorem dX11_type_25 : decode cX11_type 25 = .ok (.invokestatic 49, 3) := by decide +kernel
theorem dX11_type_28 : decode cX11_type 28 = .ok (.ifCond .ne 13, 3) := by decide +kernel
theorem dX11_type_31 : decode cX11_type 31 = .ok (.new 42, 3) := by decide +kernel
theorem dX11_type_34 : decode cX11_type 34 = .ok (.dup, 1) := by decide +kernel
theorem dX11_type_35 : decode cX11_type 35 = .ok (.ldc 53, 2) := by decide +kernel
theorem dX11_type_37 : decode cX11_type 37 = .ok (.invokespecial 46, 3) := by decide +kernel
theorem dX11_type_40 : decode cX11_type 40 = .ok (.athrow, 1) := by decide +kernel
theorem dX11_type_41 : decode cX11_type 41 = .ok (.iload_n 1, 1) := by decide +kernel
theorem dX11_type_42 : decode cX11_type 42 = .ok (.iconst 1, 1) := by decide +kernel
theorem dX11_type_43 : decode cX11_type 43 = .ok (.if_icmp .ne 13, 3) := by decide +kernel
theorem dX11_type_46 : decode cX11_type 46 = .ok (.aload_n 0, 1) := by decide +kernel
theorem dX11_type_47 : decode cX11_type 47 = .ok (.iload_n 2, 1) := by decide +kernel
theorem dX11_type_48 : decode cX11_type 48 = .ok (.invokevirtual 55, 3) := by decide +kernel
theorem dX11_type_56 : decode cX11_type 56 = .ok (.aload_n 0, 1) := by decide +kernel
theorem dX11_type_57 : decode cX11_type 57 = .ok (.getfield 12, 3) := by decide +kernel
theorem dX11_type_60 : decode cX11_type 60 = .ok (.getfield 59, 3) := by decide +kernel
theorem dX11_type_63 : decode cX11_type 63 = .ok (.bipush 60, 2) := by decide +kernel
theorem dX11_type_65 : decode cX11_type 65 = .ok (.if_icmp .lt 13, 3) := by decide +kernel
theorem dX11_type_78 : decode cX11_type 78 = .ok (.iload_n 1, 1) := by decide +kernel
theorem dX11_type_79 : decode cX11_type 79 = .ok (.iconst 1, 1) := by decide +kernel
theorem dX11_type_80 : decode cX11_type 80 = .ok (.if_icmp .ne 39, 3) := by decide +kernel
theorem dX11_type_119 : decode cX11_type 119 = .ok (.iload_n 1, 1) := by decide +kernel
theorem dX11_type_120 : decode cX11_type 120 = .ok (.iconst 1, 1) := by decide +kernel
theorem dX11_type_121 : decode cX11_type 121 = .ok (.if_icmp .ne 15, 3) := by decide +kernel
theorem dX11_type_136 : decode cX11_type 136 = .ok (.aload_n 0, 1) := by decide +kernel
theorem dX11_type_137 : decode cX11_type 137 = .ok (.getfield 12, 3) := by decide +kernel
theorem dX11_type_140 : decode cX11_type 140 = .ok (.iload_n 1, 1) := by decide +kernel
theorem dX11_type_141 : decode cX11_type 141 = .ok (.ifCond .ne 7, 3) := by decide +kernel
theorem dX11_type_144 : decode cX11_type 144 = .ok (.iconst 0, 1) := by decide +kernel
theorem dX11_type_145 : decode cX11_type 145 = .ok (.goto 6, 3) := by decide +kernel
theorem dX11_type_148 : decode cX11_type 148 = .ok (.iconst 2, 1) := by decide +kernel
theorem dX11_type_149 : decode cX11_type 149 = .ok (.iload_n 2, 1) := by decide +kernel
theorem dX11_type_150 : decode cX11_type 150 = .ok (.iadd, 1) := by decide +kernel
theorem dX11_type_151 : decode cX11_type 151 = .ok (.invokevirtual 78, 3) := by decide +kernel
theorem dX11_type_154 : decode cX11_type 154 = .ok (.ireturn, 1) := by decide +kernel
theorem dX11_leaf_0 : decode cX11_leaf 0 = .ok (.iload_n 1, 1) := by decide +kernel
theorem dX11_leaf_1 : decode cX11_leaf 1 = .ok (.ifCond .eq 20, 3) := by decide +kernel
theorem dX11_leaf_4 : decode cX11_leaf 4 = .ok (.iload_n 2, 1) := by decide +kernel
theorem dX11_leaf_5 : decode cX11_leaf 5 = .ok (.invokestatic 82, 3) := by decide +kernel
theorem dX11_leaf_8 : decode cX11_leaf 8 = .ok (.ifCond .ne 13, 3) := by decide +kernel
theorem dX11_leaf_11 : decode cX11_leaf 11 = .ok (.new 42, 3) := by decide +kernel
theorem dX11_leaf_14 : decode cX11_leaf 14 = .ok (.dup, 1) := by decide +kernel
theorem dX11_leaf_15 : decode cX11_leaf 15 = .ok (.ldc 85, 2) := by decide +kernel
theorem dX11_leaf_17 : decode cX11_leaf 17 = .ok (.invokespecial 46, 3) := by decide +kernel
theorem dX11_leaf_20 : decode cX11_leaf 20 = .ok (.athrow, 1) := by decide +kernel
theorem dX11_leaf_21 : decode cX11_leaf 21 = .ok (.aload_n 0, 1) := by decide +kernel
theorem dX11_leaf_22 : decode cX11_leaf 22 = .ok (.getfield 12, 3) := by decide +kernel
theorem dX11_leaf_25 : decode cX11_leaf 25 = .ok (.getfield 87, 3) := by decide +kernel
theorem dX11_leaf_28 : decode cX11_leaf 28 = .ok (.bipush 120, 2) := by decide +kernel
theorem dX11_leaf_30 : decode cX11_leaf 30 = .ok (.if_icmp .lt 13, 3) := by decide +kernel
theorem dX11_leaf_43 : decode cX11_leaf 43 = .ok (.aload_n 0, 1) := by decide +kernel
theorem dX11_leaf_44 : decode cX11_leaf 44 = .ok (.getfield 12, 3) := by decide +kernel
theorem dX11_leaf_47 : decode cX11_leaf 47 = .ok (.iload_n 1, 1) := by decide +kernel
theorem dX11_leaf_48 : decode cX11_leaf 48 = .ok (.ifCond .eq 8, 3) := by decide +kernel
theorem dX11_leaf_51 : decode cX11_leaf 51 = .ok (.bipush 6, 2) := by decide +kernel
theorem dX11_leaf_53 : decode cX11_leaf 53 = .ok (.goto 4, 3) := by decide +kernel
theorem dX11_leaf_56 : decode cX11_leaf 56 = .ok (.iconst 5, 1) := by decide +kernel
theorem dX11_leaf_57 : decode cX11_leaf 57 = .ok (.iload_n 2, 1) := by decide +kernel
theorem dX11_leaf_58 : decode cX11_leaf 58 = .ok (.invokevirtual 92, 3) := by decide +kernel
theorem dX11_leaf_61 : decode cX11_leaf 61 = .ok (.ireturn, 1) := by decide +kernel
theorem dX11_expression_0 : decode cX11_expression 0 = .ok (.iload_n 1, 1) := by decide +kernel
theorem dX11_expression_1 : decode cX11_expression 1 = .ok (.ifCond .lt 8, 3) := by decide +kernel
theorem dX11_expression_4 : decode cX11_expression 4 = .ok (.iload_n 1, 1) := by decide +kernel
theorem dX11_expression_5 : decode cX11_expression 5 = .ok (.iconst 4, 1) := by decide +kernel
theorem dX11_expression_6 : decode cX11_expression 6 = .ok (.if_icmp .le 13, 3) := by decide +kernel
theorem dX11_expression_9 : decode cX11_expression 9 = .ok (.new 42, 3) := by decide +kernel
theorem dX11_expression_12 : decode cX11_expression 12 = .ok (.dup, 1) := by decide +kernel
theorem dX11_expression_13 : decode cX11_expression 13 = .ok (.ldc 95, 2) := by decide +kernel
theorem dX11_expression_15 : decode cX11_expression 15 = .ok (.invokespecial 46, 3) := by decide +kernel
theorem dX11_expression_18 : decode cX11_expression 18 = .ok (.athrow, 1) := by decide +kernel
theorem dX11_expression_19 : decode cX11_expression 19 = .ok (.iload_n 1, 1) := by decide +kernel
theorem dX11_expression_20 : decode cX11_expression 20 = .ok (.iconst 2, 1) := by decide +kernel
theorem dX11_expression_21 : decode cX11_expression 21 = .ok (.if_icmp .eq 8, 3) := by decide +kernel
theorem dX11_expression_24 : decode cX11_expression 24 = .ok (.iload_n 1, 1) := by decide +kernel
theorem dX11_expression_25 : decode cX11_expression 25 = .ok (.iconst 3, 1) := by decide +kernel
theorem dX11_expression_26 : decode cX11_expression 26 = .ok (.if_icmp .ne 7, 3) := by decide +kernel
theorem dX11_expression_29 : decode cX11_expression 29 = .ok (.iconst 1, 1) := by decide +kernel
theorem dX11_expression_30 : decode cX11_expression 30 = .ok (.goto 4, 3) := by decide +kernel
theorem dX11_expression_33 : decode cX11_expression 33 = .ok (.iconst 0, 1) := by decide +kernel
theorem dX11_expression_34 : decode cX11_expression 34 = .ok (.istore 5, 2) := by decide +kernel
theorem dX11_expression_36 : decode cX11_expression 36 = .ok (.aload_n 0, 1) := by decide +kernel
theorem dX11_expression_37 : decode cX11_expression 37 = .ok (.iload_n 2, 1) := by decide +kernel
theorem dX11_expression_38 : decode cX11_expression 38 = .ok (.invokevirtual 97, 3) := by decide +kernel
theorem dX11_unit_0 : decode cX11_unit 0 = .ok (.aload_n 0, 1) := by decide +kernel
theorem dX11_unit_1 : decode cX11_unit 1 = .ok (.getfield 12, 3) := by decide +kernel
theorem dX11_unit_4 : decode cX11_unit 4 = .ok (.getfield 110, 3) := by decide +kernel
theorem dX11_unit_7 : decode cX11_unit 7 = .ok (.bipush 8, 2) := by decide +kernel
theorem dX11_unit_9 : decode cX11_unit 9 = .ok (.if_icmp .lt 13, 3) := by decide +kernel
theorem dX11_unit_22 : decode cX11_unit 22 = .ok (.aload_n 0, 1) := by decide +kernel
theorem dX11_unit_23 : decode cX11_unit 23 = .ok (.getfield 12, 3) := by decide +kernel
theorem dX11_unit_26 : decode cX11_unit 26 = .ok (.invokevirtual 115, 3) := by decide +kernel
theorem dX11_unit_29 : decode cX11_unit 29 = .ok (.ireturn, 1) := by decide +kernel
theorem dX11_version_0 : decode cX11_version 0 = .ok (.aload_n 0, 1) := by decide +kernel
theorem dX11_version_1 : decode cX11_version 1 = .ok (.iload_n 1, 1) := by decide +kernel
theorem dX11_version_2 : decode cX11_version 2 = .ok (.invokevirtual 119, 3) := by decide +kernel
theorem dX11_setType_0 : decode cX11_setType 0 = .ok (.aload_n 0, 1) := by decide +kernel
theorem dX11_setType_1 : decode cX11_setType 1 = .ok (.iload_n 1, 1) := by decide +kernel
theorem dX11_setType_2 : decode cX11_setType 2 = .ok (.invokevirtual 119, 3) := by decide +kernel
theorem dX11_setValue_0 : decode cX11_setValue 0 = .ok (.aload_n 0, 1) := by decide +kernel
theorem dX11_setValue_1 : decode cX11_setValue 1 = .ok (.iload_n 1, 1) := by decide +kernel
theorem dX11_setValue_2 : decode cX11_setValue 2 = .ok (.invokevirtual 119, 3) := by decide +kernel
theorem dX11_remove_0 : decode cX11_remove 0 = .ok (.aload_n 0, 1) := by decide +kernel
theorem dX11_remove_1 : decode cX11_remove 1 = .ok (.iload_n 1, 1) := by decide +kernel
theorem dX11_remove_2 : decode cX11_remove 2 = .ok (.invokevirtual 119, 3) := by decide +kernel
theorem dX11_unitNode_0 : decode cX11_unitNode 0 = .ok (.aload_n 0, 1) := by decide +kernel
theorem dX11_unitNode_1 : decode cX11_unitNode 1 = .ok (.iload_n 1, 1) := by decide +kernel
theorem dX11_unitNode_2 : decode cX11_unitNode 2 = .ok (.invokevirtual 119, 3) := by decide +kernel
theorem dX11_node_0 : decode cX11_node 0 = .ok (.iload_n 1, 1) := by decide +kernel
theorem dX11_node_1 : decode cX11_node 1 = .ok (.ifCond .lt 8, 3) := by decide +kernel
theorem dX11_node_4 : decode cX11_node 4 = .ok (.iload_n 1, 1) := by decide +kernel
theorem dX11_node_5 : decode cX11_node 5 = .ok (.iconst 2, 1) := by decide +kernel
theorem dX11_node_6 : decode cX11_node 6 = .ok (.if_icmp .le 13, 3) := by decide +kernel
theorem dX11_node_9 : decode cX11_node 9 = .ok (.new 42, 3) := by decide +kernel
theorem dX11_node_12 : decode cX11_node 12 = .ok (.dup, 1) := by decide +kernel
theorem dX11_node_13 : decode cX11_node 13 = .ok (.ldc 176, 2) := by decide +kernel
theorem dX11_node_15 : decode cX11_node 15 = .ok (.invokespecial 46, 3) := by decide +kernel
theorem dX11_node_18 : decode cX11_node 18 = .ok (.athrow, 1) := by decide +kernel
theorem dX11_node_19 : decode cX11_node 19 = .ok (.iconst 2, 1) := by decide +kernel
theorem dX11_node_20 : decode cX11_node 20 = .ok (.anewarray 170, 3) := by decide +kernel
theorem dX11_node_23 : decode cX11_node 23 = .ok (.dup, 1) := by decide +kernel
theorem dX11_node_24 : decode cX11_node 24 = .ok (.iconst 0, 1) := by decide +kernel
theorem dX11_node_25 : decode cX11_node 25 = .ok (.aload_n 0, 1) := by decide +kernel
theorem dX11_node_26 : decode cX11_node 26 = .ok (.iload_n 2, 1) := by decide +kernel
theorem dX11_node_27 : decode cX11_node 27 = .ok (.invokevirtual 178, 3) := by decide +kernel
theorem dX11_choose_0 : decode cX11_choose 0 = .ok (.iconst 3, 1) := by decide +kernel
theorem dX11_choose_1 : decode cX11_choose 1 = .ok (.anewarray 170, 3) := by decide +kernel
theorem dX11_choose_4 : decode cX11_choose 4 = .ok (.dup, 1) := by decide +kernel
theorem dX11_choose_5 : decode cX11_choose 5 = .ok (.iconst 0, 1) := by decide +kernel
theorem dX11_choose_6 : decode cX11_choose 6 = .ok (.aload_n 0, 1) := by decide +kernel
theorem dX11_choose_7 : decode cX11_choose 7 = .ok (.iload_n 1, 1) := by decide +kernel
theorem dX11_choose_8 : decode cX11_choose 8 = .ok (.invokevirtual 178, 3) := by decide +kernel
theorem dX11_rename_0 : decode cX11_rename 0 = .ok (.iconst 1, 1) := by decide +kernel
theorem dX11_rename_1 : decode cX11_rename 1 = .ok (.anewarray 170, 3) := by decide +kernel
theorem dX11_rename_4 : decode cX11_rename 4 = .ok (.dup, 1) := by decide +kernel
theorem dX11_rename_5 : decode cX11_rename 5 = .ok (.iconst 0, 1) := by decide +kernel
theorem dX11_rename_6 : decode cX11_rename 6 = .ok (.aload_n 0, 1) := by decide +kernel
theorem dX11_rename_7 : decode cX11_rename 7 = .ok (.iload_n 1, 1) := by decide +kernel
theorem dX11_rename_8 : decode cX11_rename 8 = .ok (.invokevirtual 178, 3) := by decide +kernel
theorem dX11_error_0 : decode cX11_error 0 = .ok (.aload_n 0, 1) := by decide +kernel
theorem dX11_error_1 : decode cX11_error 1 = .ok (.getfield 21, 3) := by decide +kernel
theorem dX11_error_4 : decode cX11_error 4 = .ok (.aload_n 0, 1) := by decide +kernel
theorem dX11_error_5 : decode cX11_error 5 = .ok (.iload_n 1, 1) := by decide +kernel
theorem dX11_error_6 : decode cX11_error 6 = .ok (.invokevirtual 178, 3) := by decide +kernel
theorem dX11_typeOf_0 : decode cX11_typeOf 0 = .ok (.aload_n 0, 1) := by decide +kernel
theorem dX11_typeOf_1 : decode cX11_typeOf 1 = .ok (.iload_n 1, 1) := by decide +kernel
theorem dX11_typeOf_2 : decode cX11_typeOf 2 = .ok (.invokevirtual 178, 3) := by decide +kernel
theorem dX11_isSameType_0 : decode cX11_isSameType 0 = .ok (.aload_n 0, 1) := by decide +kernel
theorem dX11_isSameType_1 : decode cX11_isSameType 1 = .ok (.iload_n 1, 1) := by decide +kernel
theorem dX11_isSameType_2 : decode cX11_isSameType 2 = .ok (.invokevirtual 178, 3) := by decide +kernel
theorem dX11_valueOf_0 : decode cX11_valueOf 0 = .ok (.aload_n 0, 1) := by decide +kernel
theorem dX11_valueOf_1 : decode cX11_valueOf 1 = .ok (.iload_n 1, 1) := by decide +kernel
theorem dX11_valueOf_2 : decode cX11_valueOf 2 = .ok (.invokevirtual 178, 3) := by decide +kernel
theorem dX11_size_0 : decode cX11_size 0 = .ok (.aload_n 0, 1) := by decide +kernel
theorem dX11_size_1 : decode cX11_size 1 = .ok (.iload_n 1, 1) := by decide +kernel
theorem dX11_size_2 : decode cX11_size 2 = .ok (.invokevirtual 178, 3) := by decide +kernel
theorem dX11_run_0 : decode cX11_run 0 = .ok (.aload_n 0, 1) := by decide +kernel
theorem dX11_run_1 : decode cX11_run 1 = .ok (.iload_n 1, 1) := by decide +kernel
theorem dX11_run_2 : decode cX11_run 2 = .ok (.invokevirtual 178, 3) := by decide +kernel
theorem dX11_result_0 : decode cX11_result 0 = .ok (.aload_n 0, 1) := by decide +kernel
theorem dX11_result_1 : decode cX11_result 1 = .ok (.iload_n 1, 1) := by decide +kernel
theorem dX11_result_2 : decode cX11_result 2 = .ok (.invokevirtual 145, 3) := by decide +kernel
theorem dX11_result_5 : decode cX11_result 5 = .ok (.aload_n 0, 1) := by decide +kernel
theorem dX11_result_6 : decode cX11_result 6 = .ok (.getfield 222, 3) := by decide +kernel
theorem dX11_result_9 : decode cX11_result 9 = .ok (.ifCond .eq 15, 3) := by decide +kernel
theorem dX11_result_24 : decode cX11_result 24 = .ok (.new 63, 3) := by decide +kernel
theorem dX11_result_27 : decode cX11_result 27 = .ok (.dup, 1) := by decide +kernel
theorem dX11_result_28 : decode cX11_result 28 = .ok (.ldc 229, 2) := by decide +kernel
theorem dX11_result_30 : decode cX11_result 30 = .ok (.invokespecial 67, 3) := by decide +kernel
theorem dX11_result_33 : decode cX11_result 33 = .ok (.athrow, 1) := by decide +kernel
theorem dX11_logged_0 : decode cX11_logged 0 = .ok (.aload_n 0, 1) := by decide +kernel
theorem dX11_logged_1 : decode cX11_logged 1 = .ok (.getfield 222, 3) := by decide +kernel
theorem dX11_logged_4 : decode cX11_logged 4 = .ok (.ifCond .eq 13, 3) := by decide +kernel
theorem dX11_logged_17 : decode cX11_logged 17 = .ok (.iconst 0, 1) := by decide +kernel
theorem dX11_logged_18 : decode cX11_logged 18 = .ok (.ireturn, 1) := by decide +kernel
theorem dX11_log_0 : decode cX11_log 0 = .ok (.iload_n 1, 1) := by decide +kernel
theorem dX11_log_1 : decode cX11_log 1 = .ok (.ifCond .lt 21, 3) := by decide +kernel
theorem dX11_log_4 : decode cX11_log 4 = .ok (.aload_n 0, 1) := by decide +kernel
theorem dX11_log_5 : decode cX11_log 5 = .ok (.getfield 222, 3) := by decide +kernel
theorem dX11_log_8 : decode cX11_log 8 = .ok (.ifCond .eq 14, 3) := by decide +kernel
theorem dX11_log_22 : decode cX11_log 22 = .ok (.new 162, 3) := by decide +kernel
theorem dX11_log_25 : decode cX11_log 25 = .ok (.dup, 1) := by decide +kernel
theorem dX11_log_26 : decode cX11_log 26 = .ok (.ldc 248, 2) := by decide +kernel
theorem dX11_log_28 : decode cX11_log 28 = .ok (.invokespecial 166, 3) := by decide +kernel
theorem dX11_log_31 : decode cX11_log 31 = .ok (.athrow, 1) := by decide +kernel
theorem dX11_total_0 : decode cX11_total 0 = .ok (.aload_n 0, 1) := by decide +kernel
theorem dX11_total_1 : decode cX11_total 1 = .ok (.getfield 222, 3) := by decide +kernel
theorem dX11_total_4 : decode cX11_total 4 = .ok (.ifCond .eq 13, 3) := by decide +kernel
theorem dX11_total_17 : decode cX11_total 17 = .ok (.iconst 0, 1) := by decide +kernel
theorem dX11_total_18 : decode cX11_total 18 = .ok (.ireturn, 1) := by decide +kernel
theorem dX11_dropped_0 : decode cX11_dropped 0 = .ok (.aload_n 0, 1) := by decide +kernel
theorem dX11_dropped_1 : decode cX11_dropped 1 = .ok (.getfield 222, 3) := by decide +kernel
theorem dX11_dropped_4 : decode cX11_dropped 4 = .ok (.ifCond .eq 21, 3) := by decide +kernel
theorem dX11_dropped_25 : decode cX11_dropped 25 = .ok (.iconst 0, 1) := by decide +kernel
theorem dX11_dropped_26 : decode cX11_dropped 26 = .ok (.ireturn, 1) := by decide +kernel
theorem dX11_build_0 : decode cX11_build 0 = .ok (.aload_n 0, 1) := by decide +kernel
theorem dX11_build_1 : decode cX11_build 1 = .ok (.iload_n 1, 1) := by decide +kernel
theorem dX11_build_2 : decode cX11_build 2 = .ok (.invokevirtual 178, 3) := by decide +kernel
theorem dX11_compiled_0 : decode cX11_compiled 0 = .ok (.aload_n 0, 1) := by decide +kernel
theorem dX11_compiled_1 : decode cX11_compiled 1 = .ok (.iload_n 1, 1) := by decide +kernel
theorem dX11_compiled_2 : decode cX11_compiled 2 = .ok (.invokevirtual 178, 3) := by decide +kernel
theorem dX11_isFresh_0 : decode cX11_isFresh 0 = .ok (.aload_n 0, 1) := by decide +kernel
theorem dX11_isFresh_1 : decode cX11_isFresh 1 = .ok (.iload_n 1, 1) := by decide +kernel
theorem dX11_isFresh_2 : decode cX11_isFresh 2 = .ok (.invokevirtual 178, 3) := by decide +kernel
theorem dX11_needType_0 : decode cX11_needType 0 = .ok (.iload_n 1, 1) := by decide +kernel
theorem dX11_needType_1 : decode cX11_needType 1 = .ok (.ifCond .lt 14, 3) := by decide +kernel
theorem dX11_needType_4 : decode cX11_needType 4 = .ok (.iload_n 1, 1) := by decide +kernel
theorem dX11_needType_5 : decode cX11_needType 5 = .ok (.aload_n 0, 1) := by decide +kernel
theorem dX11_needType_6 : decode cX11_needType 6 = .ok (.getfield 12, 3) := by decide +kernel
theorem dX11_needType_9 : decode cX11_needType 9 = .ok (.getfield 59, 3) := by decide +kernel
theorem dX11_needType_12 : decode cX11_needType 12 = .ok (.if_icmp .lt 14, 3) := by decide +kernel
theorem dX11_needType_15 : decode cX11_needType 15 = .ok (.new 162, 3) := by decide +kernel
theorem dX11_needType_18 : decode cX11_needType 18 = .ok (.dup, 1) := by decide +kernel
theorem dX11_needType_19 : decode cX11_needType 19 = .ok (.ldc_w 341, 3) := by decide +kernel
theorem dX11_needType_22 : decode cX11_needType 22 = .ok (.invokespecial 166, 3) := by decide +kernel
theorem dX11_needType_25 : decode cX11_needType 25 = .ok (.athrow, 1) := by decide +kernel
theorem dX11_needExpression_0 : decode cX11_needExpression 0 = .ok (.iload_n 1, 1) := by decide +kernel
theorem dX11_needExpression_1 : decode cX11_needExpression 1 = .ok (.ifCond .lt 14, 3) := by decide +kernel
theorem dX11_needExpression_4 : decode cX11_needExpression 4 = .ok (.iload_n 1, 1) := by decide +kernel
theorem dX11_needExpression_5 : decode cX11_needExpression 5 = .ok (.aload_n 0, 1) := by decide +kernel
theorem dX11_needExpression_6 : decode cX11_needExpression 6 = .ok (.getfield 12, 3) := by decide +kernel
theorem dX11_needExpression_9 : decode cX11_needExpression 9 = .ok (.getfield 87, 3) := by decide +kernel
theorem dX11_needExpression_12 : decode cX11_needExpression 12 = .ok (.if_icmp .lt 14, 3) := by decide +kernel
theorem dX11_needExpression_15 : decode cX11_needExpression 15 = .ok (.new 162, 3) := by decide +kernel
theorem dX11_needExpression_18 : decode cX11_needExpression 18 = .ok (.dup, 1) := by decide +kernel
theorem dX11_needExpression_19 : decode cX11_needExpression 19 = .ok (.ldc_w 343, 3) := by decide +kernel
theorem dX11_needExpression_22 : decode cX11_needExpression 22 = .ok (.invokespecial 166, 3) := by decide +kernel
theorem dX11_needExpression_25 : decode cX11_needExpression 25 = .ok (.athrow, 1) := by decide +kernel
theorem dX11_needUnit_0 : decode cX11_needUnit 0 = .ok (.iload_n 1, 1) := by decide +kernel
theorem dX11_needUnit_1 : decode cX11_needUnit 1 = .ok (.ifCond .lt 14, 3) := by decide +kernel
theorem dX11_needUnit_4 : decode cX11_needUnit 4 = .ok (.iload_n 1, 1) := by decide +kernel
theorem dX11_needUnit_5 : decode cX11_needUnit 5 = .ok (.aload_n 0, 1) := by decide +kernel
theorem dX11_needUnit_6 : decode cX11_needUnit 6 = .ok (.getfield 12, 3) := by decide +kernel
theorem dX11_needUnit_9 : decode cX11_needUnit 9 = .ok (.getfield 110, 3) := by decide +kernel
theorem dX11_needUnit_12 : decode cX11_needUnit 12 = .ok (.if_icmp .lt 14, 3) := by decide +kernel
theorem dX11_needUnit_15 : decode cX11_needUnit 15 = .ok (.new 162, 3) := by decide +kernel
theorem dX11_needUnit_18 : decode cX11_needUnit 18 = .ok (.dup, 1) := by decide +kernel
theorem dX11_needUnit_19 : decode cX11_needUnit 19 = .ok (.ldc_w 345, 3) := by decide +kernel
theorem dX11_needUnit_22 : decode cX11_needUnit 22 = .ok (.invokespecial 166, 3) := by decide +kernel
theorem dX11_needUnit_25 : decode cX11_needUnit 25 = .ok (.athrow, 1) := by decide +kernel
theorem dX11_neededNode_0 : decode cX11_neededNode 0 = .ok (.iload_n 1, 1) := by decide +kernel
theorem dX11_neededNode_1 : decode cX11_neededNode 1 = .ok (.ifCond .lt 17, 3) := by decide +kernel
theorem dX11_neededNode_4 : decode cX11_neededNode 4 = .ok (.iload_n 1, 1) := by decide +kernel
theorem dX11_neededNode_5 : decode cX11_neededNode 5 = .ok (.aload_n 0, 1) := by decide +kernel
theorem dX11_neededNode_6 : decode cX11_neededNode 6 = .ok (.getfield 12, 3) := by decide +kernel
theorem dX11_neededNode_9 : decode cX11_neededNode 9 = .ok (.getfield 262, 3) := by decide +kernel
theorem dX11_neededNode_12 : decode cX11_neededNode 12 = .ok (.invokevirtual 266, 3) := by decide +kernel
theorem dX11_neededNode_15 : decode cX11_neededNode 15 = .ok (.if_icmp .lt 14, 3) := by decide +kernel
theorem dX11_neededNode_18 : decode cX11_neededNode 18 = .ok (.new 162, 3) := by decide +kernel
theorem dX11_neededNode_21 : decode cX11_neededNode 21 = .ok (.dup, 1) := by decide +kernel
theorem dX11_neededNode_22 : decode cX11_neededNode 22 = .ok (.ldc_w 347, 3) := by decide +kernel
theorem dX11_neededNode_25 : decode cX11_neededNode 25 = .ok (.invokespecial 166, 3) := by decide +kernel
theorem dX11_neededNode_28 : decode cX11_neededNode 28 = .ok (.athrow, 1) := by decide +kernel
theorem dX11_needValueName_0 : decode cX11_needValueName 0 = .ok (.iload_n 1, 1) := by decide +kernel
theorem dX11_needValueName_1 : decode cX11_needValueName 1 = .ok (.invokestatic 82, 3) := by decide +kernel
theorem dX11_needValueName_4 : decode cX11_needValueName 4 = .ok (.ifCond .ne 13, 3) := by decide +kernel
theorem dX11_needValueName_7 : decode cX11_needValueName 7 = .ok (.new 42, 3) := by decide +kernel
theorem dX11_needValueName_10 : decode cX11_needValueName 10 = .ok (.dup, 1) := by decide +kernel
theorem dX11_needValueName_11 : decode cX11_needValueName 11 = .ok (.ldc 85, 2) := by decide +kernel
theorem dX11_needValueName_13 : decode cX11_needValueName 13 = .ok (.invokespecial 46, 3) := by decide +kernel
theorem dX11_needValueName_16 : decode cX11_needValueName 16 = .ok (.athrow, 1) := by decide +kernel
theorem dX11_needValueName_17 : decode cX11_needValueName 17 = .ok (.return_, 1) := by decide +kernel
theorem dX11_isTypeName_0 : decode cX11_isTypeName 0 = .ok (.iload_n 0, 1) := by decide +kernel
theorem dX11_isTypeName_1 : decode cX11_isTypeName 1 = .ok (.ifCond .lt 13, 3) := by decide +kernel
theorem dX11_isTypeName_4 : decode cX11_isTypeName 4 = .ok (.iload_n 0, 1) := by decide +kernel
theorem dX11_isTypeName_5 : decode cX11_isTypeName 5 = .ok (.bipush 6, 2) := by decide +kernel
theorem dX11_isTypeName_7 : decode cX11_isTypeName 7 = .ok (.if_icmp .ge 7, 3) := by decide +kernel
theorem dX11_isTypeName_10 : decode cX11_isTypeName 10 = .ok (.iconst 1, 1) := by decide +kernel
theorem dX11_isTypeName_11 : decode cX11_isTypeName 11 = .ok (.goto 4, 3) := by decide +kernel
theorem dX11_isTypeName_14 : decode cX11_isTypeName 14 = .ok (.iconst 0, 1) := by decide +kernel
theorem dX11_isTypeName_15 : decode cX11_isTypeName 15 = .ok (.ireturn, 1) := by decide +kernel
theorem dX11_isValueName_0 : decode cX11_isValueName 0 = .ok (.iload_n 0, 1) := by decide +kernel
theorem dX11_isValueName_1 : decode cX11_isValueName 1 = .ok (.ifCond .lt 13, 3) := by decide +kernel
theorem dX11_isValueName_4 : decode cX11_isValueName 4 = .ok (.iload_n 0, 1) := by decide +kernel
theorem dX11_isValueName_5 : decode cX11_isValueName 5 = .ok (.bipush 10, 2) := by decide +kernel
theorem dX11_isValueName_7 : decode cX11_isValueName 7 = .ok (.if_icmp .ge 7, 3) := by decide +kernel
theorem dX11_isValueName_10 : decode cX11_isValueName 10 = .ok (.iconst 1, 1) := by decide +kernel
theorem dX11_isValueName_11 : decode cX11_isValueName 11 = .ok (.goto 4, 3) := by decide +kernel
theorem dX11_isValueName_14 : decode cX11_isValueName 14 = .ok (.iconst 0, 1) := by decide +kernel
theorem dX11_isValueName_15 : decode cX11_isValueName 15 = .ok (.ireturn, 1) := by decide +kernel
theorem dX12_init_0 : decode cX12_init 0 = .ok (.aload_n 0, 1) := by decide +kernel
theorem dX12_init_1 : decode cX12_init 1 = .ok (.invokespecial 1, 3) := by decide +kernel
theorem dX12_init_4 : decode cX12_init 4 = .ok (.aload_n 0, 1) := by decide +kernel
theorem dX12_init_5 : decode cX12_init 5 = .ok (.bipush 60, 2) := by decide +kernel
theorem dX12_init_7 : decode cX12_init 7 = .ok (.newarray .int, 2) := by decide +kernel
theorem dX12_init_9 : decode cX12_init 9 = .ok (.putfield 7, 3) := by decide +kernel
theorem dX12_init_12 : decode cX12_init 12 = .ok (.aload_n 0, 1) := by decide +kernel
theorem dX12_init_13 : decode cX12_init 13 = .ok (.bipush 60, 2) := by decide +kernel
theorem dX12_init_15 : decode cX12_init 15 = .ok (.newarray .int, 2) := by decide +kernel
theorem dX12_init_17 : decode cX12_init 17 = .ok (.putfield 13, 3) := by decide +kernel
theorem dX12_init_20 : decode cX12_init 20 = .ok (.aload_n 0, 1) := by decide +kernel
theorem dX12_init_21 : decode cX12_init 21 = .ok (.bipush 60, 2) := by decide +kernel
theorem dX12_init_23 : decode cX12_init 23 = .ok (.newarray .int, 2) := by decide +kernel
theorem dX12_init_25 : decode cX12_init 25 = .ok (.putfield 16, 3) := by decide +kernel
theorem dX12_init_28 : decode cX12_init 28 = .ok (.aload_n 0, 1) := by decide +kernel
theorem dX12_init_29 : decode cX12_init 29 = .ok (.bipush 60, 2) := by decide +kernel
theorem dX12_init_31 : decode cX12_init 31 = .ok (.newarray .int, 2) := by decide +kernel
theorem dX12_init_33 : decode cX12_init 33 = .ok (.putfield 19, 3) := by decide +kernel
theorem dX12_init_36 : decode cX12_init 36 = .ok (.aload_n 0, 1) := by decide +kernel
theorem dX12_init_37 : decode cX12_init 37 = .ok (.bipush 60, 2) := by decide +kernel
theorem dX12_init_39 : decode cX12_init 39 = .ok (.newarray .int, 2) := by decide +kernel
theorem dX12_init_41 : decode cX12_init 41 = .ok (.putfield 22, 3) := by decide +kernel
theorem dX12_init_44 : decode cX12_init 44 = .ok (.aload_n 0, 1) := by decide +kernel
theorem dX12_init_45 : decode cX12_init 45 = .ok (.bipush 120, 2) := by decide +kernel
theorem dX12_init_47 : decode cX12_init 47 = .ok (.newarray .int, 2) := by decide +kernel
theorem dX12_init_49 : decode cX12_init 49 = .ok (.putfield 25, 3) := by decide +kernel
theorem dX12_init_52 : decode cX12_init 52 = .ok (.aload_n 0, 1) := by decide +kernel
theorem dX12_init_53 : decode cX12_init 53 = .ok (.bipush 120, 2) := by decide +kernel
theorem dX12_init_55 : decode cX12_init 55 = .ok (.newarray .int, 2) := by decide +kernel
theorem dX12_init_57 : decode cX12_init 57 = .ok (.putfield 28, 3) := by decide +kernel
theorem dX12_init_60 : decode cX12_init 60 = .ok (.aload_n 0, 1) := by decide +kernel
theorem dX12_init_61 : decode cX12_init 61 = .ok (.bipush 120, 2) := by decide +kernel
theorem dX12_init_63 : decode cX12_init 63 = .ok (.newarray .int, 2) := by decide +kernel
theorem dX12_init_65 : decode cX12_init 65 = .ok (.putfield 31, 3) := by decide +kernel
theorem dX12_init_68 : decode cX12_init 68 = .ok (.aload_n 0, 1) := by decide +kernel
theorem dX12_init_69 : decode cX12_init 69 = .ok (.bipush 120, 2) := by decide +kernel
theorem dX12_init_71 : decode cX12_init 71 = .ok (.newarray .int, 2) := by decide +kernel
theorem dX12_init_73 : decode cX12_init 73 = .ok (.putfield 34, 3) := by decide +kernel
theorem dX12_init_76 : decode cX12_init 76 = .ok (.aload_n 0, 1) := by decide +kernel
theorem dX12_init_77 : decode cX12_init 77 = .ok (.bipush 120, 2) := by decide +kernel
theorem dX12_init_79 : decode cX12_init 79 = .ok (.newarray .int, 2) := by decide +kernel
theorem dX12_init_81 : decode cX12_init 81 = .ok (.putfield 37, 3) := by decide +kernel
theorem dX12_init_84 : decode cX12_init 84 = .ok (.aload_n 0, 1) := by decide +kernel
theorem dX12_init_85 : decode cX12_init 85 = .ok (.bipush 8, 2) := by decide +kernel
theorem dX12_init_87 : decode cX12_init 87 = .ok (.newarray .int, 2) := by decide +kernel
theorem dX12_init_89 : decode cX12_init 89 = .ok (.putfield 40, 3) := by decide +kernel
theorem dX12_init_92 : decode cX12_init 92 = .ok (.aload_n 0, 1) := by decide +kernel
theorem dX12_init_93 : decode cX12_init 93 = .ok (.sipush 240, 3) := by decide +kernel
theorem dX12_init_96 : decode cX12_init 96 = .ok (.newarray .int, 2) := by decide +kernel
theorem dX12_init_98 : decode cX12_init 98 = .ok (.putfield 43, 3) := by decide +kernel
theorem dX12_init_101 : decode cX12_init 101 = .ok (.aload_n 0, 1) := by decide +kernel
theorem dX12_init_102 : decode cX12_init 102 = .ok (.sipush 400, 3) := by decide +kernel
theorem dX12_init_105 : decode cX12_init 105 = .ok (.newarray .int, 2) := by decide +kernel
theorem dX12_init_107 : decode cX12_init 107 = .ok (.putfield 46, 3) := by decide +kernel
theorem dX12_init_110 : decode cX12_init 110 = .ok (.aload_n 0, 1) := by decide +kernel
theorem dX12_init_111 : decode cX12_init 111 = .ok (.sipush 400, 3) := by decide +kernel
theorem dX12_init_114 : decode cX12_init 114 = .ok (.newarray .int, 2) := by decide +kernel
theorem dX12_init_116 : decode cX12_init 116 = .ok (.putfield 49, 3) := by decide +kernel
theorem dX12_init_119 : decode cX12_init 119 = .ok (.aload_n 0, 1) := by decide +kernel
theorem dX12_init_120 : decode cX12_init 120 = .ok (.sipush 400, 3) := by decide +kernel
theorem dX12_init_123 : decode cX12_init 123 = .ok (.newarray .int, 2) := by decide +kernel
theorem dX12_init_125 : decode cX12_init 125 = .ok (.putfield 52, 3) := by decide +kernel
theorem dX12_init_128 : decode cX12_init 128 = .ok (.aload_n 0, 1) := by decide +kernel
theorem dX12_init_129 : decode cX12_init 129 = .ok (.bipush 40, 2) := by decide +kernel
theorem dX12_init_131 : decode cX12_init 131 = .ok (.newarray .int, 2) := by decide +kernel
theorem dX12_init_133 : decode cX12_init 133 = .ok (.putfield 55, 3) := by decide +kernel
theorem dX12_init_136 : decode cX12_init 136 = .ok (.aload_n 0, 1) := by decide +kernel
theorem dX12_init_137 : decode cX12_init 137 = .ok (.bipush 40, 2) := by decide +kernel
theorem dX12_init_139 : decode cX12_init 139 = .ok (.newarray .int, 2) := by decide +kernel
theorem dX12_init_141 : decode cX12_init 141 = .ok (.putfield 58, 3) := by decide +kernel
theorem dX12_init_144 : decode cX12_init 144 = .ok (.aload_n 0, 1) := by decide +kernel
theorem dX12_init_145 : decode cX12_init 145 = .ok (.bipush 40, 2) := by decide +kernel
theorem dX12_init_147 : decode cX12_init 147 = .ok (.newarray .int, 2) := by decide +kernel
theorem dX12_init_149 : decode cX12_init 149 = .ok (.putfield 61, 3) := by decide +kernel
theorem dX12_init_152 : decode cX12_init 152 = .ok (.aload_n 0, 1) := by decide +kernel
theorem dX12_init_153 : decode cX12_init 153 = .ok (.bipush 40, 2) := by decide +kernel
theorem dX12_init_155 : decode cX12_init 155 = .ok (.newarray .int, 2) := by decide +kernel
theorem dX12_init_157 : decode cX12_init 157 = .ok (.putfield 64, 3) := by decide +kernel
theorem dX12_init_160 : decode cX12_init 160 = .ok (.aload_n 0, 1) := by decide +kernel
theorem dX12_init_161 : decode cX12_init 161 = .ok (.bipush 40, 2) := by decide +kernel
theorem dX12_init_163 : decode cX12_init 163 = .ok (.newarray .int, 2) := by decide +kernel
theorem dX12_init_165 : decode cX12_init 165 = .ok (.putfield 67, 3) := by decide +kernel
theorem dX12_init_168 : decode cX12_init 168 = .ok (.aload_n 0, 1) := by decide +kernel
theorem dX12_init_169 : decode cX12_init 169 = .ok (.bipush 40, 2) := by decide +kernel
theorem dX12_init_171 : decode cX12_init 171 = .ok (.newarray .boolean, 2) := by decide +kernel
theorem dX12_init_173 : decode cX12_init 173 = .ok (.putfield 70, 3) := by decide +kernel
theorem dX12_init_176 : decode cX12_init 176 = .ok (.aload_n 0, 1) := by decide +kernel
theorem dX12_init_177 : decode cX12_init 177 = .ok (.ldc 74, 2) := by decide +kernel
theorem dX12_init_179 : decode cX12_init 179 = .ok (.newarray .int, 2) := by decide +kernel
theorem dX12_init_181 : decode cX12_init 181 = .ok (.putfield 75, 3) := by decide +kernel
theorem dX12_init_184 : decode cX12_init 184 = .ok (.aload_n 0, 1) := by decide +kernel
theorem dX12_init_185 : decode cX12_init 185 = .ok (.ldc 74, 2) := by decide +kernel
theorem dX12_init_187 : decode cX12_init 187 = .ok (.newarray .int, 2) := by decide +kernel
theorem dX12_init_189 : decode cX12_init 189 = .ok (.putfield 78, 3) := by decide +kernel
theorem dX12_init_192 : decode cX12_init 192 = .ok (.aload_n 0, 1) := by decide +kernel
theorem dX12_init_193 : decode cX12_init 193 = .ok (.ldc 74, 2) := by decide +kernel
theorem dX12_init_195 : decode cX12_init 195 = .ok (.newarray .int, 2) := by decide +kernel
theorem dX12_init_197 : decode cX12_init 197 = .ok (.putfield 81, 3) := by decide +kernel
theorem dX12_init_200 : decode cX12_init 200 = .ok (.aload_n 0, 1) := by decide +kernel
theorem dX12_init_201 : decode cX12_init 201 = .ok (.ldc 74, 2) := by decide +kernel
theorem dX12_init_203 : decode cX12_init 203 = .ok (.newarray .int, 2) := by decide +kernel
theorem dX12_init_205 : decode cX12_init 205 = .ok (.putfield 84, 3) := by decide +kernel
theorem dX12_init_208 : decode cX12_init 208 = .ok (.aload_n 0, 1) := by decide +kernel
theorem dX12_init_209 : decode cX12_init 209 = .ok (.ldc 74, 2) := by decide +kernel
theorem dX12_init_211 : decode cX12_init 211 = .ok (.newarray .int, 2) := by decide +kernel
