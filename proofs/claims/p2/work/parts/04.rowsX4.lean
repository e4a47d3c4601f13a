theorem dX5_init_17 : decode cX5_init 17 = .ok (.bipush 60, 2) := by decide +kernel
theorem dX5_init_19 : decode cX5_init 19 = .ok (.newarray .int, 2) := by decide +kernel
theorem dX5_init_21 : decode cX5_init 21 = .ok (.putfield 16, 3) := by decide +kernel
theorem dX5_init_24 : decode cX5_init 24 = .ok (.aload_n 0, 1) := by decide +kernel
theorem dX5_init_25 : decode cX5_init 25 = .ok (.bipush 60, 2) := by decide +kernel
theorem dX5_init_27 : decode cX5_init 27 = .ok (.newarray .int, 2) := by decide +kernel
theorem dX5_init_29 : decode cX5_init 29 = .ok (.putfield 20, 3) := by decide +kernel
theorem dX5_init_32 : decode cX5_init 32 = .ok (.aload_n 0, 1) := by decide +kernel
theorem dX5_init_33 : decode cX5_init 33 = .ok (.bipush 60, 2) := by decide +kernel
theorem dX5_init_35 : decode cX5_init 35 = .ok (.newarray .int, 2) := by decide +kernel
theorem dX5_init_37 : decode cX5_init 37 = .ok (.putfield 23, 3) := by decide +kernel
theorem dX5_init_40 : decode cX5_init 40 = .ok (.aload_n 0, 1) := by decide +kernel
theorem dX5_init_41 : decode cX5_init 41 = .ok (.bipush 120, 2) := by decide +kernel
theorem dX5_init_43 : decode cX5_init 43 = .ok (.newarray .int, 2) := by decide +kernel
theorem dX5_init_45 : decode cX5_init 45 = .ok (.putfield 26, 3) := by decide +kernel
theorem dX5_init_48 : decode cX5_init 48 = .ok (.aload_n 0, 1) := by decide +kernel
theorem dX5_init_49 : decode cX5_init 49 = .ok (.bipush 120, 2) := by decide +kernel
theorem dX5_init_51 : decode cX5_init 51 = .ok (.newarray .int, 2) := by decide +kernel
theorem dX5_init_53 : decode cX5_init 53 = .ok (.putfield 29, 3) := by decide +kernel
theorem dX5_init_56 : decode cX5_init 56 = .ok (.aload_n 0, 1) := by decide +kernel
theorem dX5_init_57 : decode cX5_init 57 = .ok (.bipush 120, 2) := by decide +kernel
theorem dX5_init_59 : decode cX5_init 59 = .ok (.newarray .int, 2) := by decide +kernel
theorem dX5_init_61 : decode cX5_init 61 = .ok (.putfield 32, 3) := by decide +kernel
theorem dX5_init_64 : decode cX5_init 64 = .ok (.aload_n 0, 1) := by decide +kernel
theorem dX5_init_65 : decode cX5_init 65 = .ok (.bipush 120, 2) := by decide +kernel
theorem dX5_init_67 : decode cX5_init 67 = .ok (.newarray .int, 2) := by decide +kernel
theorem dX5_init_69 : decode cX5_init 69 = .ok (.putfield 35, 3) := by decide +kernel
theorem dX5_init_72 : decode cX5_init 72 = .ok (.aload_n 0, 1) := by decide +kernel
theorem dX5_init_73 : decode cX5_init 73 = .ok (.bipush 120, 2) := by decide +kernel
theorem dX5_init_75 : decode cX5_init 75 = .ok (.newarray .int, 2) := by decide +kernel
theorem dX5_init_77 : decode cX5_init 77 = .ok (.putfield 38, 3) := by decide +kernel
theorem dX5_init_80 : decode cX5_init 80 = .ok (.aload_n 0, 1) := by decide +kernel
theorem dX5_init_81 : decode cX5_init 81 = .ok (.bipush 120, 2) := by decide +kernel
theorem dX5_init_83 : decode cX5_init 83 = .ok (.newarray .int, 2) := by decide +kernel
theorem dX5_init_85 : decode cX5_init 85 = .ok (.putfield 41, 3) := by decide +kernel
theorem dX5_init_88 : decode cX5_init 88 = .ok (.aload_n 0, 1) := by decide +kernel
theorem dX5_init_89 : decode cX5_init 89 = .ok (.bipush 120, 2) := by decide +kernel
theorem dX5_init_91 : decode cX5_init 91 = .ok (.newarray .int, 2) := by decide +kernel
theorem dX5_init_93 : decode cX5_init 93 = .ok (.putfield 44, 3) := by decide +kernel
theorem dX5_init_96 : decode cX5_init 96 = .ok (.aload_n 0, 1) := by decide +kernel
theorem dX5_init_97 : decode cX5_init 97 = .ok (.bipush 40, 2) := by decide +kernel
theorem dX5_init_99 : decode cX5_init 99 = .ok (.anewarray 47, 3) := by decide +kernel
theorem dX5_init_102 : decode cX5_init 102 = .ok (.putfield 49, 3) := by decide +kernel
theorem dX5_init_105 : decode cX5_init 105 = .ok (.aload_n 0, 1) := by decide +kernel
theorem dX5_init_106 : decode cX5_init 106 = .ok (.bipush 8, 2) := by decide +kernel
theorem dX5_init_108 : decode cX5_init 108 = .ok (.newarray .int, 2) := by decide +kernel
theorem dX5_init_110 : decode cX5_init 110 = .ok (.putfield 53, 3) := by decide +kernel
theorem dX5_init_113 : decode cX5_init 113 = .ok (.aload_n 0, 1) := by decide +kernel
theorem dX5_init_114 : decode cX5_init 114 = .ok (.new 56, 3) := by decide +kernel
theorem dX5_init_117 : decode cX5_init 117 = .ok (.dup, 1) := by decide +kernel
theorem dX5_init_118 : decode cX5_init 118 = .ok (.invokespecial 58, 3) := by decide +kernel
theorem dX5_init_121 : decode cX5_init 121 = .ok (.putfield 59, 3) := by decide +kernel
theorem dX5_init_124 : decode cX5_init 124 = .ok (.iconst 0, 1) := by decide +kernel
theorem dX5_init_125 : decode cX5_init 125 = .ok (.istore_n 1, 1) := by decide +kernel
theorem dX5_init_126 : decode cX5_init 126 = .ok (.iload_n 1, 1) := by decide +kernel
theorem dX5_init_127 : decode cX5_init 127 = .ok (.aload_n 0, 1) := by decide +kernel
theorem dX5_init_128 : decode cX5_init 128 = .ok (.getfield 49, 3) := by decide +kernel
theorem dX5_init_131 : decode cX5_init 131 = .ok (.arraylength, 1) := by decide +kernel
theorem dX5_init_132 : decode cX5_init 132 = .ok (.if_icmp .ge 22, 3) := by decide +kernel
theorem dX5_init_135 : decode cX5_init 135 = .ok (.aload_n 0, 1) := by decide +kernel
theorem dX5_init_136 : decode cX5_init 136 = .ok (.getfield 49, 3) := by decide +kernel
theorem dX5_init_139 : decode cX5_init 139 = .ok (.iload_n 1, 1) := by decide +kernel
theorem dX5_init_140 : decode cX5_init 140 = .ok (.new 47, 3) := by decide +kernel
theorem dX5_init_143 : decode cX5_init 143 = .ok (.dup, 1) := by decide +kernel
theorem dX5_init_144 : decode cX5_init 144 = .ok (.invokespecial 63, 3) := by decide +kernel
theorem dX5_init_147 : decode cX5_init 147 = .ok (.aastore, 1) := by decide +kernel
theorem dX5_init_148 : decode cX5_init 148 = .ok (.iinc 1 1, 3) := by decide +kernel
theorem dX5_init_151 : decode cX5_init 151 = .ok (.goto (-25), 3) := by decide +kernel
theorem dX5_init_154 : decode cX5_init 154 = .ok (.return_, 1) := by decide +kernel
theorem dX5_addSmallType_0 : decode cX5_addSmallType 0 = .ok (.aload_n 0, 1) := by decide +kernel
theorem dX5_addSmallType_1 : decode cX5_addSmallType 1 = .ok (.getfield 11, 3) := by decide +kernel
theorem dX5_addSmallType_4 : decode cX5_addSmallType 4 = .ok (.aload_n 0, 1) := by decide +kernel
theorem dX5_addSmallType_5 : decode cX5_addSmallType 5 = .ok (.getfield 64, 3) := by decide +kernel
theorem dX5_addSmallType_8 : decode cX5_addSmallType 8 = .ok (.aaload, 1) := by decide +kernel
theorem dX5_addSmallType_9 : decode cX5_addSmallType 9 = .ok (.iconst 0, 1) := by decide +kernel
theorem dX5_addSmallType_10 : decode cX5_addSmallType 10 = .ok (.iload_n 1, 1) := by decide +kernel
theorem dX5_addSmallType_11 : decode cX5_addSmallType 11 = .ok (.iastore, 1) := by decide +kernel
theorem dX5_addSmallType_12 : decode cX5_addSmallType 12 = .ok (.aload_n 0, 1) := by decide +kernel
theorem dX5_addSmallType_13 : decode cX5_addSmallType 13 = .ok (.getfield 20, 3) := by decide +kernel
theorem dX5_addSmallType_16 : decode cX5_addSmallType 16 = .ok (.aload_n 0, 1) := by decide +kernel
theorem dX5_addSmallType_17 : decode cX5_addSmallType 17 = .ok (.getfield 64, 3) := by decide +kernel
theorem dX5_addSmallType_20 : decode cX5_addSmallType 20 = .ok (.iload_n 1, 1) := by decide +kernel
theorem dX5_addSmallType_21 : decode cX5_addSmallType 21 = .ok (.ifCond .ne 7, 3) := by decide +kernel
theorem dX5_addSmallType_24 : decode cX5_addSmallType 24 = .ok (.iconst 0, 1) := by decide +kernel
theorem dX5_addSmallType_25 : decode cX5_addSmallType 25 = .ok (.goto 8, 3) := by decide +kernel
theorem dX5_addSmallType_28 : decode cX5_addSmallType 28 = .ok (.iconst 1, 1) := by decide +kernel
theorem dX5_addSmallType_29 : decode cX5_addSmallType 29 = .ok (.iload_n 1, 1) := by decide +kernel
theorem dX5_addSmallType_30 : decode cX5_addSmallType 30 = .ok (.iconst 2, 1) := by decide +kernel
theorem dX5_addSmallType_31 : decode cX5_addSmallType 31 = .ok (.isub, 1) := by decide +kernel
theorem dX5_addSmallType_32 : decode cX5_addSmallType 32 = .ok (.ishl, 1) := by decide +kernel
theorem dX5_addSmallType_33 : decode cX5_addSmallType 33 = .ok (.iastore, 1) := by decide +kernel
theorem dX5_addSmallType_34 : decode cX5_addSmallType 34 = .ok (.aload_n 0, 1) := by decide +kernel
theorem dX5_addSmallType_35 : decode cX5_addSmallType 35 = .ok (.iconst 1, 1) := by decide +kernel
theorem dX5_addSmallType_36 : decode cX5_addSmallType 36 = .ok (.invokevirtual 68, 3) := by decide +kernel
theorem dX5_addSmallType_39 : decode cX5_addSmallType 39 = .ok (.ireturn, 1) := by decide +kernel
theorem dX5_addPairType_0 : decode cX5_addPairType 0 = .ok (.aload_n 0, 1) := by decide +kernel
theorem dX5_addPairType_1 : decode cX5_addPairType 1 = .ok (.getfield 11, 3) := by decide +kernel
theorem dX5_addPairType_4 : decode cX5_addPairType 4 = .ok (.aload_n 0, 1) := by decide +kernel
theorem dX5_addPairType_5 : decode cX5_addPairType 5 = .ok (.getfield 64, 3) := by decide +kernel
theorem dX5_addPairType_8 : decode cX5_addPairType 8 = .ok (.aaload, 1) := by decide +kernel
theorem dX5_addPairType_9 : decode cX5_addPairType 9 = .ok (.astore_n 3, 1) := by decide +kernel
theorem dX5_addPairType_10 : decode cX5_addPairType 10 = .ok (.aload_n 3, 1) := by decide +kernel
theorem dX5_addPairType_11 : decode cX5_addPairType 11 = .ok (.iconst 0, 1) := by decide +kernel
theorem dX5_addPairType_12 : decode cX5_addPairType 12 = .ok (.iconst 1, 1) := by decide +kernel
theorem dX5_addPairType_13 : decode cX5_addPairType 13 = .ok (.iastore, 1) := by decide +kernel
theorem dX5_addPairType_14 : decode cX5_addPairType 14 = .ok (.aload_n 0, 1) := by decide +kernel
theorem dX5_addPairType_15 : decode cX5_addPairType 15 = .ok (.getfield 11, 3) := by decide +kernel
theorem dX5_addPairType_18 : decode cX5_addPairType 18 = .ok (.iload_n 1, 1) := by decide +kernel
theorem dX5_addPairType_19 : decode cX5_addPairType 19 = .ok (.aaload, 1) := by decide +kernel
theorem dX5_addPairType_20 : decode cX5_addPairType 20 = .ok (.iconst 0, 1) := by decide +kernel
theorem dX5_addPairType_21 : decode cX5_addPairType 21 = .ok (.aload_n 3, 1) := by decide +kernel
theorem dX5_addPairType_22 : decode cX5_addPairType 22 = .ok (.iconst 1, 1) := by decide +kernel
theorem dX5_addPairType_23 : decode cX5_addPairType 23 = .ok (.aload_n 0, 1) := by decide +kernel
theorem dX5_addPairType_24 : decode cX5_addPairType 24 = .ok (.getfield 16, 3) := by decide +kernel
theorem dX5_addPairType_27 : decode cX5_addPairType 27 = .ok (.iload_n 1, 1) := by decide +kernel
theorem dX5_addPairType_28 : decode cX5_addPairType 28 = .ok (.iaload, 1) := by decide +kernel
theorem dX5_addPairType_29 : decode cX5_addPairType 29 = .ok (.invokestatic 72, 3) := by decide +kernel
theorem dX5_addPairType_32 : decode cX5_addPairType 32 = .ok (.aload_n 0, 1) := by decide +kernel
theorem dX5_addPairType_33 : decode cX5_addPairType 33 = .ok (.getfield 11, 3) := by decide +kernel
theorem dX5_addPairType_36 : decode cX5_addPairType 36 = .ok (.iload_n 2, 1) := by decide +kernel
theorem dX5_addPairType_37 : decode cX5_addPairType 37 = .ok (.aaload, 1) := by decide +kernel
theorem dX5_addPairType_38 : decode cX5_addPairType 38 = .ok (.iconst 0, 1) := by decide +kernel
theorem dX5_addPairType_39 : decode cX5_addPairType 39 = .ok (.aload_n 3, 1) := by decide +kernel
theorem dX5_addPairType_40 : decode cX5_addPairType 40 = .ok (.iconst 1, 1) := by decide +kernel
theorem dX5_addPairType_41 : decode cX5_addPairType 41 = .ok (.aload_n 0, 1) := by decide +kernel
theorem dX5_addPairType_42 : decode cX5_addPairType 42 = .ok (.getfield 16, 3) := by decide +kernel
theorem dX5_addPairType_45 : decode cX5_addPairType 45 = .ok (.iload_n 1, 1) := by decide +kernel
theorem dX5_addPairType_46 : decode cX5_addPairType 46 = .ok (.iaload, 1) := by decide +kernel
theorem dX5_addPairType_47 : decode cX5_addPairType 47 = .ok (.iadd, 1) := by decide +kernel
theorem dX5_addPairType_48 : decode cX5_addPairType 48 = .ok (.aload_n 0, 1) := by decide +kernel
theorem dX5_addPairType_49 : decode cX5_addPairType 49 = .ok (.getfield 16, 3) := by decide +kernel
theorem dX5_addPairType_52 : decode cX5_addPairType 52 = .ok (.iload_n 2, 1) := by decide +kernel
theorem dX5_addPairType_53 : decode cX5_addPairType 53 = .ok (.iaload, 1) := by decide +kernel
theorem dX5_addPairType_54 : decode cX5_addPairType 54 = .ok (.invokestatic 72, 3) := by decide +kernel
theorem dX5_addPairType_57 : decode cX5_addPairType 57 = .ok (.aload_n 0, 1) := by decide +kernel
theorem dX5_addPairType_58 : decode cX5_addPairType 58 = .ok (.getfield 20, 3) := by decide +kernel
theorem dX5_addPairType_61 : decode cX5_addPairType 61 = .ok (.aload_n 0, 1) := by decide +kernel
theorem dX5_addPairType_62 : decode cX5_addPairType 62 = .ok (.getfield 64, 3) := by decide +kernel
theorem dX5_addPairType_65 : decode cX5_addPairType 65 = .ok (.aload_n 0, 1) := by decide +kernel
theorem dX5_addPairType_66 : decode cX5_addPairType 66 = .ok (.getfield 20, 3) := by decide +kernel
theorem dX5_addPairType_69 : decode cX5_addPairType 69 = .ok (.iload_n 1, 1) := by decide +kernel
theorem dX5_addPairType_70 : decode cX5_addPairType 70 = .ok (.iaload, 1) := by decide +kernel
theorem dX5_addPairType_71 : decode cX5_addPairType 71 = .ok (.aload_n 0, 1) := by decide +kernel
theorem dX5_addPairType_72 : decode cX5_addPairType 72 = .ok (.getfield 20, 3) := by decide +kernel
theorem dX5_addPairType_75 : decode cX5_addPairType 75 = .ok (.iload_n 2, 1) := by decide +kernel
theorem dX5_addPairType_76 : decode cX5_addPairType 76 = .ok (.iaload, 1) := by decide +kernel
theorem dX5_addPairType_77 : decode cX5_addPairType 77 = .ok (.ior, 1) := by decide +kernel
theorem dX5_addPairType_78 : decode cX5_addPairType 78 = .ok (.iastore, 1) := by decide +kernel
theorem dX5_addPairType_79 : decode cX5_addPairType 79 = .ok (.aload_n 0, 1) := by decide +kernel
theorem dX5_addPairType_80 : decode cX5_addPairType 80 = .ok (.iconst 1, 1) := by decide +kernel
theorem dX5_addPairType_81 : decode cX5_addPairType 81 = .ok (.aload_n 0, 1) := by decide +kernel
theorem dX5_addPairType_82 : decode cX5_addPairType 82 = .ok (.getfield 16, 3) := by decide +kernel
theorem dX5_addPairType_85 : decode cX5_addPairType 85 = .ok (.iload_n 1, 1) := by decide +kernel
theorem dX5_addPairType_86 : decode cX5_addPairType 86 = .ok (.iaload, 1) := by decide +kernel
theorem dX5_addPairType_87 : decode cX5_addPairType 87 = .ok (.iadd, 1) := by decide +kernel
theorem dX5_addPairType_88 : decode cX5_addPairType 88 = .ok (.aload_n 0, 1) := by decide +kernel
theorem dX5_addPairType_89 : decode cX5_addPairType 89 = .ok (.getfield 16, 3) := by decide +kernel
theorem dX5_addPairType_92 : decode cX5_addPairType 92 = .ok (.iload_n 2, 1) := by decide +kernel
theorem dX5_addPairType_93 : decode cX5_addPairType 93 = .ok (.iaload, 1) := by decide +kernel
theorem dX5_addPairType_94 : decode cX5_addPairType 94 = .ok (.iadd, 1) := by decide +kernel
theorem dX5_addPairType_95 : decode cX5_addPairType 95 = .ok (.invokevirtual 68, 3) := by decide +kernel
theorem dX5_addPairType_98 : decode cX5_addPairType 98 = .ok (.ireturn, 1) := by decide +kernel
theorem dX5_endType_0 : decode cX5_endType 0 = .ok (.aload_n 0, 1) := by decide +kernel
theorem dX5_endType_1 : decode cX5_endType 1 = .ok (.getfield 64, 3) := by decide +kernel
theorem dX5_endType_4 : decode cX5_endType 4 = .ok (.istore_n 2, 1) := by decide +kernel
theorem dX5_endType_5 : decode cX5_endType 5 = .ok (.aload_n 0, 1) := by decide +kernel
theorem dX5_endType_6 : decode cX5_endType 6 = .ok (.getfield 16, 3) := by decide +kernel
theorem dX5_endType_9 : decode cX5_endType 9 = .ok (.iload_n 2, 1) := by decide +kernel
theorem dX5_endType_10 : decode cX5_endType 10 = .ok (.iload_n 1, 1) := by decide +kernel
theorem dX5_endType_11 : decode cX5_endType 11 = .ok (.iastore, 1) := by decide +kernel
theorem dX5_endType_12 : decode cX5_endType 12 = .ok (.aload_n 0, 1) := by decide +kernel
theorem dX5_endType_13 : decode cX5_endType 13 = .ok (.getfield 23, 3) := by decide +kernel
theorem dX5_endType_16 : decode cX5_endType 16 = .ok (.iload_n 2, 1) := by decide +kernel
theorem dX5_endType_17 : decode cX5_endType 17 = .ok (.iload_n 2, 1) := by decide +kernel
theorem dX5_endType_18 : decode cX5_endType 18 = .ok (.iastore, 1) := by decide +kernel
theorem dX5_endType_19 : decode cX5_endType 19 = .ok (.iconst 0, 1) := by decide +kernel
theorem dX5_endType_20 : decode cX5_endType 20 = .ok (.istore_n 3, 1) := by decide +kernel
theorem dX5_endType_21 : decode cX5_endType 21 = .ok (.iload_n 3, 1) := by decide +kernel
theorem dX5_endType_22 : decode cX5_endType 22 = .ok (.iload_n 2, 1) := by decide +kernel
theorem dX5_endType_23 : decode cX5_endType 23 = .ok (.if_icmp .ge 51, 3) := by decide +kernel
theorem dX5_endType_26 : decode cX5_endType 26 = .ok (.aload_n 0, 1) := by decide +kernel
theorem dX5_endType_27 : decode cX5_endType 27 = .ok (.getfield 23, 3) := by decide +kernel
theorem dX5_endType_30 : decode cX5_endType 30 = .ok (.iload_n 2, 1) := by decide +kernel
theorem dX5_endType_31 : decode cX5_endType 31 = .ok (.iaload, 1) := by decide +kernel
theorem dX5_endType_32 : decode cX5_endType 32 = .ok (.iload_n 2, 1) := by decide +kernel
theorem dX5_endType_33 : decode cX5_endType 33 = .ok (.if_icmp .ne 41, 3) := by decide +kernel
theorem dX5_endType_36 : decode cX5_endType 36 = .ok (.aload_n 0, 1) := by decide +kernel
theorem dX5_endType_37 : decode cX5_endType 37 = .ok (.getfield 11, 3) := by decide +kernel
theorem dX5_endType_40 : decode cX5_endType 40 = .ok (.iload_n 3, 1) := by decide +kernel
theorem dX5_endType_41 : decode cX5_endType 41 = .ok (.aaload, 1) := by decide +kernel
theorem dX5_endType_42 : decode cX5_endType 42 = .ok (.aload_n 0, 1) := by decide +kernel
theorem dX5_endType_43 : decode cX5_endType 43 = .ok (.getfield 16, 3) := by decide +kernel
theorem dX5_endType_46 : decode cX5_endType 46 = .ok (.iload_n 3, 1) := by decide +kernel
theorem dX5_endType_47 : decode cX5_endType 47 = .ok (.iaload, 1) := by decide +kernel
theorem dX5_endType_48 : decode cX5_endType 48 = .ok (.aload_n 0, 1) := by decide +kernel
theorem dX5_endType_49 : decode cX5_endType 49 = .ok (.getfield 11, 3) := by decide +kernel
theorem dX5_endType_52 : decode cX5_endType 52 = .ok (.iload_n 2, 1) := by decide +kernel
theorem dX5_endType_53 : decode cX5_endType 53 = .ok (.aaload, 1) := by decide +kernel
theorem dX5_endType_54 : decode cX5_endType 54 = .ok (.iload_n 1, 1) := by decide +kernel
theorem dX5_endType_55 : decode cX5_endType 55 = .ok (.invokestatic 78, 3) := by decide +kernel
theorem dX5_endType_58 : decode cX5_endType 58 = .ok (.ifCond .eq 10, 3) := by decide +kernel
theorem dX5_endType_61 : decode cX5_endType 61 = .ok (.aload_n 0, 1) := by decide +kernel
theorem dX5_endType_62 : decode cX5_endType 62 = .ok (.getfield 23, 3) := by decide +kernel
theorem dX5_endType_65 : decode cX5_endType 65 = .ok (.iload_n 2, 1) := by decide +kernel
theorem dX5_endType_66 : decode cX5_endType 66 = .ok (.iload_n 3, 1) := by decide +kernel
theorem dX5_endType_67 : decode cX5_endType 67 = .ok (.iastore, 1) := by decide +kernel
theorem dX5_endType_68 : decode cX5_endType 68 = .ok (.iinc 3 1, 3) := by decide +kernel
theorem dX5_endType_71 : decode cX5_endType 71 = .ok (.goto (-50), 3) := by decide +kernel
theorem dX5_endType_74 : decode cX5_endType 74 = .ok (.aload_n 0, 1) := by decide +kernel
theorem dX5_endType_75 : decode cX5_endType 75 = .ok (.dup, 1) := by decide +kernel
theorem dX5_endType_76 : decode cX5_endType 76 = .ok (.getfield 64, 3) := by decide +kernel
theorem dX5_endType_79 : decode cX5_endType 79 = .ok (.iconst 1, 1) := by decide +kernel
theorem dX5_endType_80 : decode cX5_endType 80 = .ok (.iadd, 1) := by decide +kernel
theorem dX5_endType_81 : decode cX5_endType 81 = .ok (.putfield 64, 3) := by decide +kernel
theorem dX5_endType_84 : decode cX5_endType 84 = .ok (.iload_n 2, 1) := by decide +kernel
theorem dX5_endType_85 : decode cX5_endType 85 = .ok (.ireturn, 1) := by decide +kernel
theorem dX5_weightOf_0 : decode cX5_weightOf 0 = .ok (.iconst 1, 1) := by decide +kernel
theorem dX5_weightOf_1 : decode cX5_weightOf 1 = .ok (.aload_n 0, 1) := by decide +kernel
theorem dX5_weightOf_2 : decode cX5_weightOf 2 = .ok (.getfield 38, 3) := by decide +kernel
theorem dX5_weightOf_5 : decode cX5_weightOf 5 = .ok (.iload_n 1, 1) := by decide +kernel
theorem dX5_weightOf_6 : decode cX5_weightOf 6 = .ok (.iaload, 1) := by decide +kernel
theorem dX5_weightOf_7 : decode cX5_weightOf 7 = .ok (.iadd, 1) := by decide +kernel
theorem dX5_weightOf_8 : decode cX5_weightOf 8 = .ok (.iload_n 2, 1) := by decide +kernel
theorem dX5_weightOf_9 : decode cX5_weightOf 9 = .ok (.ifCond .ge 7, 3) := by decide +kernel
theorem dX5_weightOf_12 : decode cX5_weightOf 12 = .ok (.iconst 0, 1) := by decide +kernel
theorem dX5_weightOf_13 : decode cX5_weightOf 13 = .ok (.goto 9, 3) := by decide +kernel
theorem dX5_weightOf_16 : decode cX5_weightOf 16 = .ok (.aload_n 0, 1) := by decide +kernel
theorem dX5_weightOf_17 : decode cX5_weightOf 17 = .ok (.getfield 38, 3) := by decide +kernel
theorem dX5_weightOf_20 : decode cX5_weightOf 20 = .ok (.iload_n 2, 1) := by decide +kernel
theorem dX5_weightOf_21 : decode cX5_weightOf 21 = .ok (.iaload, 1) := by decide +kernel
theorem dX5_weightOf_22 : decode cX5_weightOf 22 = .ok (.iadd, 1) := by decide +kernel
theorem dX5_weightOf_23 : decode cX5_weightOf 23 = .ok (.iload_n 3, 1) := by decide +kernel
theorem dX5_weightOf_24 : decode cX5_weightOf 24 = .ok (.ifCond .ge 7, 3) := by decide +kernel
theorem dX5_weightOf_27 : decode cX5_weightOf 27 = .ok (.iconst 0, 1) := by decide +kernel
theorem dX5_weightOf_28 : decode cX5_weightOf 28 = .ok (.goto 9, 3) := by decide +kernel
theorem dX5_weightOf_31 : decode cX5_weightOf 31 = .ok (.aload_n 0, 1) := by decide +kernel
theorem dX5_weightOf_32 : decode cX5_weightOf 32 = .ok (.getfield 38, 3) := by decide +kernel
theorem dX5_weightOf_35 : decode cX5_weightOf 35 = .ok (.iload_n 3, 1) := by decide +kernel
theorem dX5_weightOf_36 : decode cX5_weightOf 36 = .ok (.iaload, 1) := by decide +kernel
theorem dX5_weightOf_37 : decode cX5_weightOf 37 = .ok (.iadd, 1) := by decide +kernel
theorem dX5_weightOf_38 : decode cX5_weightOf 38 = .ok (.ireturn, 1) := by decide +kernel
theorem dX5_addLeaf_0 : decode cX5_addLeaf 0 = .ok (.aload_n 0, 1) := by decide +kernel
theorem dX5_addLeaf_1 : decode cX5_addLeaf 1 = .ok (.getfield 26, 3) := by decide +kernel
theorem dX5_addLeaf_4 : decode cX5_addLeaf 4 = .ok (.aload_n 0, 1) := by decide +kernel
theorem dX5_addLeaf_5 : decode cX5_addLeaf 5 = .ok (.getfield 82, 3) := by decide +kernel
theorem dX5_addLeaf_8 : decode cX5_addLeaf 8 = .ok (.iload_n 1, 1) := by decide +kernel
theorem dX5_addLeaf_9 : decode cX5_addLeaf 9 = .ok (.iastore, 1) := by decide +kernel
theorem dX5_addLeaf_10 : decode cX5_addLeaf 10 = .ok (.aload_n 0, 1) := by decide +kernel
theorem dX5_addLeaf_11 : decode cX5_addLeaf 11 = .ok (.getfield 29, 3) := by decide +kernel
theorem dX5_addLeaf_14 : decode cX5_addLeaf 14 = .ok (.aload_n 0, 1) := by decide +kernel
theorem dX5_addLeaf_15 : decode cX5_addLeaf 15 = .ok (.getfield 82, 3) := by decide +kernel
theorem dX5_addLeaf_18 : decode cX5_addLeaf 18 = .ok (.iload_n 2, 1) := by decide +kernel
theorem dX5_addLeaf_19 : decode cX5_addLeaf 19 = .ok (.iastore, 1) := by decide +kernel
theorem dX5_addLeaf_20 : decode cX5_addLeaf 20 = .ok (.aload_n 0, 1) := by decide +kernel
theorem dX5_addLeaf_21 : decode cX5_addLeaf 21 = .ok (.getfield 32, 3) := by decide +kernel
theorem dX5_addLeaf_24 : decode cX5_addLeaf 24 = .ok (.aload_n 0, 1) := by decide +kernel
theorem dX5_addLeaf_25 : decode cX5_addLeaf 25 = .ok (.getfield 82, 3) := by decide +kernel
theorem dX5_addLeaf_28 : decode cX5_addLeaf 28 = .ok (.iconst (-1), 1) := by decide +kernel
theorem dX5_addLeaf_29 : decode cX5_addLeaf 29 = .ok (.iastore, 1) := by decide +kernel
theorem dX5_addLeaf_30 : decode cX5_addLeaf 30 = .ok (.aload_n 0, 1) := by decide +kernel
theorem dX5_addLeaf_31 : decode cX5_addLeaf 31 = .ok (.getfield 35, 3) := by decide +kernel
theorem dX5_addLeaf_34 : decode cX5_addLeaf 34 = .ok (.aload_n 0, 1) := by decide +kernel
theorem dX5_addLeaf_35 : decode cX5_addLeaf 35 = .ok (.getfield 82, 3) := by decide +kernel
theorem dX5_addLeaf_38 : decode cX5_addLeaf 38 = .ok (.iconst (-1), 1) := by decide +kernel
theorem dX5_addLeaf_39 : decode cX5_addLeaf 39 = .ok (.iastore, 1) := by decide +kernel
theorem dX5_addLeaf_40 : decode cX5_addLeaf 40 = .ok (.aload_n 0, 1) := by decide +kernel
theorem dX5_addLeaf_41 : decode cX5_addLeaf 41 = .ok (.getfield 38, 3) := by decide +kernel
theorem dX5_addLeaf_44 : decode cX5_addLeaf 44 = .ok (.aload_n 0, 1) := by decide +kernel
theorem dX5_addLeaf_45 : decode cX5_addLeaf 45 = .ok (.getfield 82, 3) := by decide +kernel
theorem dX5_addLeaf_48 : decode cX5_addLeaf 48 = .ok (.iconst 1, 1) := by decide +kernel
theorem dX5_addLeaf_49 : decode cX5_addLeaf 49 = .ok (.iastore, 1) := by decide +kernel
theorem dX5_addLeaf_50 : decode cX5_addLeaf 50 = .ok (.aload_n 0, 1) := by decide +kernel
theorem dX5_addLeaf_51 : decode cX5_addLeaf 51 = .ok (.getfield 41, 3) := by decide +kernel
theorem dX5_addLeaf_54 : decode cX5_addLeaf 54 = .ok (.aload_n 0, 1) := by decide +kernel
theorem dX5_addLeaf_55 : decode cX5_addLeaf 55 = .ok (.getfield 82, 3) := by decide +kernel
theorem dX5_addLeaf_58 : decode cX5_addLeaf 58 = .ok (.iload_n 1, 1) := by decide +kernel
theorem dX5_addLeaf_59 : decode cX5_addLeaf 59 = .ok (.bipush 6, 2) := by decide +kernel
theorem dX5_addLeaf_61 : decode cX5_addLeaf 61 = .ok (.if_icmp .ne 9, 3) := by decide +kernel
theorem dX5_addLeaf_64 : decode cX5_addLeaf 64 = .ok (.iconst 1, 1) := by decide +kernel
theorem dX5_addLeaf_65 : decode cX5_addLeaf 65 = .ok (.iload_n 2, 1) := by decide +kernel
theorem dX5_addLeaf_66 : decode cX5_addLeaf 66 = .ok (.ishl, 1) := by decide +kernel
theorem dX5_addLeaf_67 : decode cX5_addLeaf 67 = .ok (.goto 4, 3) := by decide +kernel
theorem dX5_addLeaf_70 : decode cX5_addLeaf 70 = .ok (.iconst 0, 1) := by decide +kernel
theorem dX5_addLeaf_71 : decode cX5_addLeaf 71 = .ok (.iastore, 1) := by decide +kernel
theorem dX5_addLeaf_72 : decode cX5_addLeaf 72 = .ok (.aload_n 0, 1) := by decide +kernel
theorem dX5_addLeaf_73 : decode cX5_addLeaf 73 = .ok (.invokevirtual 85, 3) := by decide +kernel
theorem dX5_addLeaf_76 : decode cX5_addLeaf 76 = .ok (.ireturn, 1) := by decide +kernel
theorem dX5_addExpression_0 : decode cX5_addExpression 0 = .ok (.aload_n 0, 1) := by decide +kernel
theorem dX5_addExpression_1 : decode cX5_addExpression 1 = .ok (.getfield 82, 3) := by decide +kernel
theorem dX5_addExpression_4 : decode cX5_addExpression 4 = .ok (.istore 5, 2) := by decide +kernel
theorem dX5_addExpression_6 : decode cX5_addExpression 6 = .ok (.aload_n 0, 1) := by decide +kernel
theorem dX5_addExpression_7 : decode cX5_addExpression 7 = .ok (.getfield 26, 3) := by decide +kernel
theorem dX5_addExpression_10 : decode cX5_addExpression 10 = .ok (.iload 5, 2) := by decide +kernel
theorem dX5_addExpression_12 : decode cX5_addExpression 12 = .ok (.iload_n 1, 1) := by decide +kernel
theorem dX5_addExpression_13 : decode cX5_addExpression 13 = .ok (.iastore, 1) := by decide +kernel
theorem dX5_addExpression_14 : decode cX5_addExpression 14 = .ok (.aload_n 0, 1) := by decide +kernel
theorem dX5_addExpression_15 : decode cX5_addExpression 15 = .ok (.getfield 29, 3) := by decide +kernel
theorem dX5_addExpression_18 : decode cX5_addExpression 18 = .ok (.iload 5, 2) := by decide +kernel
theorem dX5_addExpression_20 : decode cX5_addExpression 20 = .ok (.aload_n 0, 1) := by decide +kernel
theorem dX5_addExpression_21 : decode cX5_addExpression 21 = .ok (.getfield 44, 3) := by decide +kernel
theorem dX5_addExpression_24 : decode cX5_addExpression 24 = .ok (.iload_n 2, 1) := by decide +kernel
theorem dX5_addExpression_25 : decode cX5_addExpression 25 = .ok (.iaload, 1) := by decide +kernel
theorem dX5_addExpression_26 : decode cX5_addExpression 26 = .ok (.iastore, 1) := by decide +kernel
theorem dX5_addExpression_27 : decode cX5_addExpression 27 = .ok (.aload_n 0, 1) := by decide +kernel
theorem dX5_addExpression_28 : decode cX5_addExpression 28 = .ok (.getfield 32, 3) := by decide +kernel
theorem dX5_addExpression_31 : decode cX5_addExpression 31 = .ok (.iload 5, 2) := by decide +kernel
theorem dX5_addExpression_33 : decode cX5_addExpression 33 = .ok (.iload_n 3, 1) := by decide +kernel
theorem dX5_addExpression_34 : decode cX5_addExpression 34 = .ok (.ifCond .ge 7, 3) := by decide +kernel
theorem dX5_addExpression_37 : decode cX5_addExpression 37 = .ok (.iconst (-1), 1) := by decide +kernel
theorem dX5_addExpression_38 : decode cX5_addExpression 38 = .ok (.goto 9, 3) := by decide +kernel
theorem dX5_addExpression_41 : decode cX5_addExpression 41 = .ok (.aload_n 0, 1) := by decide +kernel
theorem dX5_addExpression_42 : decode cX5_addExpression 42 = .ok (.getfield 44, 3) := by decide +kernel
theorem dX5_addExpression_45 : decode cX5_addExpression 45 = .ok (.iload_n 3, 1) := by decide +kernel
theorem dX5_addExpression_46 : decode cX5_addExpression 46 = .ok (.iaload, 1) := by decide +kernel
theorem dX5_addExpression_47 : decode cX5_addExpression 47 = .ok (.iastore, 1) := by decide +kernel
theorem dX5_addExpression_48 : decode cX5_addExpression 48 = .ok (.aload_n 0, 1) := by decide +kernel
theorem dX5_addExpression_49 : decode cX5_addExpression 49 = .ok (.getfield 35, 3) := by decide +kernel
theorem dX5_addExpression_52 : decode cX5_addExpression 52 = .ok (.iload 5, 2) := by decide +kernel
theorem dX5_addExpression_54 : decode cX5_addExpression 54 = .ok (.iload 4, 2) := by decide +kernel
theorem dX5_addExpression_56 : decode cX5_addExpression 56 = .ok (.ifCond .ge 7, 3) := by decide +kernel
theorem dX5_addExpression_59 : decode cX5_addExpression 59 = .ok (.iconst (-1), 1) := by decide +kernel
theorem dX5_addExpression_60 : decode cX5_addExpression 60 = .ok (.goto 10, 3) := by decide +kernel
theorem dX5_addExpression_63 : decode cX5_addExpression 63 = .ok (.aload_n 0, 1) := by decide +kernel
theorem dX5_addExpression_64 : decode cX5_addExpression 64 = .ok (.getfield 44, 3) := by decide +kernel
theorem dX5_addExpression_67 : decode cX5_addExpression 67 = .ok (.iload 4, 2) := by decide +kernel
theorem dX5_addExpression_69 : decode cX5_addExpression 69 = .ok (.iaload, 1) := by decide +kernel
theorem dX5_addExpression_70 : decode cX5_addExpression 70 = .ok (.iastore, 1) := by decide +kernel
theorem dX5_addExpression_71 : decode cX5_addExpression 71 = .ok (.aload_n 0, 1) := by decide +kernel
theorem dX5_addExpression_72 : decode cX5_addExpression 72 = .ok (.getfield 38, 3) := by decide +kernel
theorem dX5_addExpression_75 : decode cX5_addExpression 75 = .ok (.iload 5, 2) := by decide +kernel
theorem dX5_addExpression_77 : decode cX5_addExpression 77 = .ok (.aload_n 0, 1) := by decide +kernel
theorem dX5_addExpression_78 : decode cX5_addExpression 78 = .ok (.iload_n 2, 1) := by decide +kernel
theorem dX5_addExpression_79 : decode cX5_addExpression 79 = .ok (.iload_n 3, 1) := by decide +kernel
theorem dX5_addExpression_80 : decode cX5_addExpression 80 = .ok (.iload 4, 2) := by decide +kernel
theorem dX5_addExpression_82 : decode cX5_addExpression 82 = .ok (.invokevirtual 89, 3) := by decide +kernel
theorem dX5_addExpression_85 : decode cX5_addExpression 85 = .ok (.iastore, 1) := by decide +kernel
theorem dX5_addExpression_86 : decode cX5_addExpression 86 = .ok (.aload_n 0, 1) := by decide +kernel
theorem dX5_addExpression_87 : decode cX5_addExpression 87 = .ok (.getfield 41, 3) := by decide +kernel
theorem dX5_addExpression_90 : decode cX5_addExpression 90 = .ok (.iload 5, 2) := by decide +kernel
theorem dX5_addExpression_92 : decode cX5_addExpression 92 = .ok (.aload_n 0, 1) := by decide +kernel
theorem dX5_addExpression_93 : decode cX5_addExpression 93 = .ok (.getfield 41, 3) := by decide +kernel
theorem dX5_addExpression_96 : decode cX5_addExpression 96 = .ok (.iload_n 2, 1) := by decide +kernel
theorem dX5_addExpression_97 : decode cX5_addExpression 97 = .ok (.iaload, 1) := by decide +kernel
theorem dX5_addExpression_98 : decode cX5_addExpression 98 = .ok (.iload_n 3, 1) := by decide +kernel
theorem dX5_addExpression_99 : decode cX5_addExpression 99 = .ok (.ifCond .ge 7, 3) := by decide +kernel
theorem dX5_addExpression_102 : decode cX5_addExpression 102 = .ok (.iconst 0, 1) := by decide +kernel
theorem dX5_addExpression_103 : decode cX5_addExpression 103 = .ok (.goto 9, 3) := by decide +kernel
theorem dX5_addExpression_106 : decode cX5_addExpression 106 = .ok (.aload_n 0, 1) := by decide +kernel
theorem dX5_addExpression_107 : decode cX5_addExpression 107 = .ok (.getfield 41, 3) := by decide +kernel
theorem dX5_addExpression_110 : decode cX5_addExpression 110 = .ok (.iload_n 3, 1) := by decide +kernel
theorem dX5_addExpression_111 : decode cX5_addExpression 111 = .ok (.iaload, 1) := by decide +kernel
theorem dX5_addExpression_112 : decode cX5_addExpression 112 = .ok (.ior, 1) := by decide +kernel
theorem dX5_addExpression_113 : decode cX5_addExpression 113 = .ok (.iload 4, 2) := by decide +kernel
theorem dX5_addExpression_115 : decode cX5_addExpression 115 = .ok (.ifCond .ge 7, 3) := by decide +kernel
theorem dX5_addExpression_118 : decode cX5_addExpression 118 = .ok (.iconst 0, 1) := by decide +kernel
theorem dX5_addExpression_119 : decode cX5_addExpression 119 = .ok (.goto 10, 3) := by decide +kernel
theorem dX5_addExpression_122 : decode cX5_addExpression 122 = .ok (.aload_n 0, 1) := by decide +kernel
theorem dX5_addExpression_123 : decode cX5_addExpression 123 = .ok (.getfield 41, 3) := by decide +kernel
theorem dX5_addExpression_126 : decode cX5_addExpression 126 = .ok (.iload 4, 2) := by decide +kernel
theorem dX5_addExpression_128 : decode cX5_addExpression 128 = .ok (.iaload, 1) := by decide +kernel
theorem dX5_addExpression_129 : decode cX5_addExpression 129 = .ok (.ior, 1) := by decide +kernel
theorem dX5_addExpression_130 : decode cX5_addExpression 130 = .ok (.iastore, 1) := by decide +kernel
theorem dX5_addExpression_131 : decode cX5_addExpression 131 = .ok (.aload_n 0, 1) := by decide +kernel
theorem dX5_addExpression_132 : decode cX5_addExpression 132 = .ok (.invokevirtual 85, 3) := by decide +kernel
theorem dX5_addExpression_135 : decode cX5_addExpression 135 = .ok (.ireturn, 1) := by decide +kernel
theorem dX5_endExpression_0 : decode cX5_endExpression 0 = .ok (.aload_n 0, 1) := by decide +kernel
theorem dX5_endExpression_1 : decode cX5_endExpression 1 = .ok (.getfield 82, 3) := by decide +kernel
theorem dX5_endExpression_4 : decode cX5_endExpression 4 = .ok (.istore_n 1, 1) := by decide +kernel
theorem dX5_endExpression_5 : decode cX5_endExpression 5 = .ok (.aload_n 0, 1) := by decide +kernel
theorem dX5_endExpression_6 : decode cX5_endExpression 6 = .ok (.getfield 44, 3) := by decide +kernel
theorem dX5_endExpression_9 : decode cX5_endExpression 9 = .ok (.iload_n 1, 1) := by decide +kernel
theorem dX5_endExpression_10 : decode cX5_endExpression 10 = .ok (.iload_n 1, 1) := by decide +kernel
theorem dX5_endExpression_11 : decode cX5_endExpression 11 = .ok (.iastore, 1) := by decide +kernel
theorem dX5_endExpression_12 : decode cX5_endExpression 12 = .ok (.iconst 0, 1) := by decide +kernel
theorem dX5_endExpression_13 : decode cX5_endExpression 13 = .ok (.istore_n 2, 1) := by decide +kernel
theorem dX5_endExpression_14 : decode cX5_endExpression 14 = .ok (.iload_n 2, 1) := by decide +kernel
theorem dX5_endExpression_15 : decode cX5_endExpression 15 = .ok (.iload_n 1, 1) := by decide +kernel
theorem dX5_endExpression_16 : decode cX5_endExpression 16 = .ok (.if_icmp .ge 86, 3) := by decide +kernel
theorem dX5_endExpression_19 : decode cX5_endExpression 19 = .ok (.aload_n 0, 1) := by decide +kernel
theorem dX5_endExpression_20 : decode cX5_endExpression 20 = .ok (.getfield 44, 3) := by decide +kernel
theorem dX5_endExpression_23 : decode cX5_endExpression 23 = .ok (.iload_n 1, 1) := by decide +kernel
theorem dX5_endExpression_24 : decode cX5_endExpression 24 = .ok (.iaload, 1) := by decide +kernel
theorem dX5_endExpression_25 : decode cX5_endExpression 25 = .ok (.iload_n 1, 1) := by decide +kernel
theorem dX5_endExpression_26 : decode cX5_endExpression 26 = .ok (.if_icmp .ne 76, 3) := by decide +kernel
theorem dX5_endExpression_29 : decode cX5_endExpression 29 = .ok (.aload_n 0, 1) := by decide +kernel
theorem dX5_endExpression_30 : decode cX5_endExpression 30 = .ok (.getfield 26, 3) := by decide +kernel
theorem dX5_endExpression_33 : decode cX5_endExpression 33 = .ok (.iload_n 2, 1) := by decide +kernel
theorem dX5_endExpression_34 : decode cX5_endExpression 34 = .ok (.iaload, 1) := by decide +kernel
theorem dX5_endExpression_35 : decode cX5_endExpression 35 = .ok (.aload_n 0, 1) := by decide +kernel
theorem dX5_endExpression_36 : decode cX5_endExpression 36 = .ok (.getfield 26, 3) := by decide +kernel
theorem dX5_endExpression_39 : decode cX5_endExpression 39 = .ok (.iload_n 1, 1) := by decide +kernel
theorem dX5_endExpression_40 : decode cX5_endExpression 40 = .ok (.iaload, 1) := by decide +kernel
theorem dX5_endExpression_41 : decode cX5_endExpression 41 = .ok (.if_icmp .ne 55, 3) := by decide +kernel
theorem dX5_endExpression_44 : decode cX5_endExpression 44 = .ok (.aload_n 0, 1) := by decide +kernel
theorem dX5_endExpression_45 : decode cX5_endExpression 45 = .ok (.getfield 29, 3) := by decide +kernel
theorem dX5_endExpression_48 : decode cX5_endExpression 48 = .ok (.iload_n 2, 1) := by decide +kernel
theorem dX5_endExpression_49 : decode cX5_endExpression 49 = .ok (.iaload, 1) := by decide +kernel
theorem dX5_endExpression_50 : decode cX5_endExpression 50 = .ok (.aload_n 0, 1) := by decide +kernel
theorem dX5_endExpression_51 : decode cX5_endExpression 51 = .ok (.getfield 29, 3) := by decide +kernel
theorem dX5_endExpression_54 : decode cX5_endExpression 54 = .ok (.iload_n 1, 1) := by decide +kernel
theorem dX5_endExpression_55 : decode cX5_endExpression 55 = .ok (.iaload, 1) := by decide +kernel
theorem dX5_endExpression_56 : decode cX5_endExpression 56 = .ok (.if_icmp .ne 40, 3) := by decide +kernel
theorem dX5_endExpression_59 : decode cX5_endExpression 59 = .ok (.aload_n 0, 1) := by decide +kernel
theorem dX5_endExpression_60 : decode cX5_endExpression 60 = .ok (.getfield 32, 3) := by decide +kernel
theorem dX5_endExpression_63 : decode cX5_endExpression 63 = .ok (.iload_n 2, 1) := by decide +kernel
theorem dX5_endExpression_64 : decode cX5_endExpression 64 = .ok (.iaload, 1) := by decide +kernel
theorem dX5_endExpression_65 : decode cX5_endExpression 65 = .ok (.aload_n 0, 1) := by decide +kernel
theorem dX5_endExpression_66 : decode cX5_endExpression 66 = .ok (.getfield 32, 3) := by decide +kernel
theorem dX5_endExpression_69 : decode cX5_endExpression 69 = .ok (.iload_n 1, 1) := by decide +kernel
theorem dX5_endExpression_70 : decode cX5_endExpression 70 = .ok (.iaload, 1) := by decide +kernel
theorem dX5_endExpression_71 : decode cX5_endExpression 71 = .ok (.if_icmp .ne 25, 3) := by decide +kernel
theorem dX5_endExpression_74 : decode cX5_endExpression 74 = .ok (.aload_n 0, 1) := by decide +kernel
theorem dX5_endExpression_75 : decode cX5_endExpression 75 = .ok (.getfield 35, 3) := by decide +kernel
theorem dX5_endExpression_78 : decode cX5_endExpression 78 = .ok (.iload_n 2, 1) := by decide +kernel
theorem dX5_endExpression_79 : decode cX5_endExpression 79 = .ok (.iaload, 1) := by decide +kernel
theorem dX5_endExpression_80 : decode cX5_endExpression 80 = .ok (.aload_n 0, 1) := by decide +kernel
theorem dX5_endExpression_81 : decode cX5_endExpression 81 = .ok (.getfield 35, 3) := by decide +kernel
theorem dX5_endExpression_84 : decode cX5_endExpression 84 = .ok (.iload_n 1, 1) := by decide +kernel
theorem dX5_endExpression_85 : decode cX5_endExpression 85 = .ok (.iaload, 1) := by decide +kernel
theorem dX5_endExpression_86 : decode cX5_endExpression 86 = .ok (.if_icmp .ne 10, 3) := by decide +kernel
theorem dX5_endExpression_89 : decode cX5_endExpression 89 = .ok (.aload_n 0, 1) := by decide +kernel
theorem dX5_endExpression_90 : decode cX5_endExpression 90 = .ok (.getfield 44, 3) := by decide +kernel
theorem dX5_endExpression_93 : decode cX5_endExpression 93 = .ok (.iload_n 1, 1) := by decide +kernel
theorem dX5_endExpression_94 : decode cX5_endExpression 94 = .ok (.iload_n 2, 1) := by decide +kernel
theorem dX5_endExpression_95 : decode cX5_endExpression 95 = .ok (.iastore, 1) := by decide +kernel
theorem dX5_endExpression_96 : decode cX5_endExpression 96 = .ok (.iinc 2 1, 3) := by decide +kernel
theorem dX5_endExpression_99 : decode cX5_endExpression 99 = .ok (.goto (-85), 3) := by decide +kernel
theorem dX5_endExpression_102 : decode cX5_endExpression 102 = .ok (.aload_n 0, 1) := by decide +kernel
theorem dX5_endExpression_103 : decode cX5_endExpression 103 = .ok (.dup, 1) := by decide +kernel
theorem dX5_endExpression_104 : decode cX5_endExpression 104 = .ok (.getfield 82, 3) := by decide +kernel
theorem dX5_endExpression_107 : decode cX5_endExpression 107 = .ok (.iconst 1, 1) := by decide +kernel
theorem dX5_endExpression_108 : decode cX5_endExpression 108 = .ok (.iadd, 1) := by decide +kernel
theorem dX5_endExpression_109 : decode cX5_endExpression 109 = .ok (.putfield 82, 3) := by decide +kernel
theorem dX5_endExpression_112 : decode cX5_endExpression 112 = .ok (.iload_n 1, 1) := by decide +kernel
theorem dX5_endExpression_113 : decode cX5_endExpression 113 = .ok (.ireturn, 1) := by decide +kernel
theorem dX5_addUnit_0 : decode cX5_addUnit 0 = .ok (.aload_n 0, 1) := by decide +kernel
theorem dX5_addUnit_1 : decode cX5_addUnit 1 = .ok (.dup, 1) := by decide +kernel
theorem dX5_addUnit_2 : decode cX5_addUnit 2 = .ok (.getfield 93, 3) := by decide +kernel
theorem dX5_addUnit_5 : decode cX5_addUnit 5 = .ok (.iconst 1, 1) := by decide +kernel
theorem dX5_addUnit_6 : decode cX5_addUnit 6 = .ok (.iadd, 1) := by decide +kernel
theorem dX5_addUnit_7 : decode cX5_addUnit 7 = .ok (.putfield 93, 3) := by decide +kernel
theorem dX5_addUnit_10 : decode cX5_addUnit 10 = .ok (.aload_n 0, 1) := by decide +kernel
theorem dX5_addUnit_11 : decode cX5_addUnit 11 = .ok (.aload_n 0, 1) := by decide +kernel
theorem dX5_addUnit_12 : decode cX5_addUnit 12 = .ok (.getfield 93, 3) := by decide +kernel
theorem dX5_addUnit_15 : decode cX5_addUnit 15 = .ok (.iconst 1, 1) := by decide +kernel
theorem dX5_addUnit_16 : decode cX5_addUnit 16 = .ok (.isub, 1) := by decide +kernel
theorem dX5_addUnit_17 : decode cX5_addUnit 17 = .ok (.invokevirtual 96, 3) := by decide +kernel
theorem dX5_addUnit_20 : decode cX5_addUnit 20 = .ok (.pop, 1) := by decide +kernel
theorem dX5_addUnit_21 : decode cX5_addUnit 21 = .ok (.aload_n 0, 1) := by decide +kernel
theorem dX5_addUnit_22 : decode cX5_addUnit 22 = .ok (.getfield 93, 3) := by decide +kernel
theorem dX5_addUnit_25 : decode cX5_addUnit 25 = .ok (.iconst 1, 1) := by decide +kernel
theorem dX5_addUnit_26 : decode cX5_addUnit 26 = .ok (.isub, 1) := by decide +kernel
theorem dX5_addUnit_27 : decode cX5_addUnit 27 = .ok (.ireturn, 1) := by decide +kernel
theorem dX5_addVersion_0 : decode cX5_addVersion 0 = .ok (.aload_n 0, 1) := by decide +kernel
theorem dX5_addVersion_1 : decode cX5_addVersion 1 = .ok (.getfield 53, 3) := by decide +kernel
theorem dX5_addVersion_4 : decode cX5_addVersion 4 = .ok (.iload_n 1, 1) := by decide +kernel
theorem dX5_addVersion_5 : decode cX5_addVersion 5 = .ok (.iaload, 1) := by decide +kernel
theorem dX5_addVersion_6 : decode cX5_addVersion 6 = .ok (.istore_n 2, 1) := by decide +kernel
theorem dX5_addVersion_7 : decode cX5_addVersion 7 = .ok (.iload_n 2, 1) := by decide +kernel
theorem dX5_addVersion_8 : decode cX5_addVersion 8 = .ok (.ifCond .le 21, 3) := by decide +kernel
theorem dX5_addVersion_11 : decode cX5_addVersion 11 = .ok (.aload_n 0, 1) := by decide +kernel
theorem dX5_addVersion_12 : decode cX5_addVersion 12 = .ok (.getfield 49, 3) := by decide +kernel
theorem dX5_addVersion_15 : decode cX5_addVersion 15 = .ok (.iload_n 1, 1) := by decide +kernel
theorem dX5_addVersion_16 : decode cX5_addVersion 16 = .ok (.iconst 5, 1) := by decide +kernel
theorem dX5_addVersion_17 : decode cX5_addVersion 17 = .ok (.imul, 1) := by decide +kernel
theorem dX5_addVersion_18 : decode cX5_addVersion 18 = .ok (.iload_n 2, 1) := by decide +kernel
theorem dX5_addVersion_19 : decode cX5_addVersion 19 = .ok (.iadd, 1) := by decide +kernel
theorem dX5_addVersion_20 : decode cX5_addVersion 20 = .ok (.aaload, 1) := by decide +kernel
theorem dX5_addVersion_21 : decode cX5_addVersion 21 = .ok (.aload_n 0, 1) := by decide +kernel
theorem dX5_addVersion_22 : decode cX5_addVersion 22 = .ok (.iload_n 1, 1) := by decide +kernel
theorem dX5_addVersion_23 : decode cX5_addVersion 23 = .ok (.invokevirtual 99, 3) := by decide +kernel
theorem dX5_addVersion_26 : decode cX5_addVersion 26 = .ok (.invokevirtual 103, 3) := by decide +kernel
theorem dX5_addVersion_29 : decode cX5_addVersion 29 = .ok (.aload_n 0, 1) := by decide +kernel
theorem dX5_addVersion_30 : decode cX5_addVersion 30 = .ok (.getfield 53, 3) := by decide +kernel
theorem dX5_addVersion_33 : decode cX5_addVersion 33 = .ok (.iload_n 1, 1) := by decide +kernel
theorem dX5_addVersion_34 : decode cX5_addVersion 34 = .ok (.dup2, 1) := by decide +kernel
theorem dX5_addVersion_35 : decode cX5_addVersion 35 = .ok (.iaload, 1) := by decide +kernel
theorem dX5_addVersion_36 : decode cX5_addVersion 36 = .ok (.iconst 1, 1) := by decide +kernel
theorem dX5_addVersion_37 : decode cX5_addVersion 37 = .ok (.iadd, 1) := by decide +kernel
theorem dX5_addVersion_38 : decode cX5_addVersion 38 = .ok (.iastore, 1) := by decide +kernel
theorem dX5_addVersion_39 : decode cX5_addVersion 39 = .ok (.aload_n 0, 1) := by decide +kernel
theorem dX5_addVersion_40 : decode cX5_addVersion 40 = .ok (.dup, 1) := by decide +kernel
theorem dX5_addVersion_41 : decode cX5_addVersion 41 = .ok (.getfield 107, 3) := by decide +kernel
theorem dX5_addVersion_44 : decode cX5_addVersion 44 = .ok (.iconst 1, 1) := by decide +kernel
theorem dX5_addVersion_45 : decode cX5_addVersion 45 = .ok (.iadd, 1) := by decide +kernel
theorem dX5_addVersion_46 : decode cX5_addVersion 46 = .ok (.putfield 107, 3) := by decide +kernel
theorem dX5_addVersion_49 : decode cX5_addVersion 49 = .ok (.iload_n 2, 1) := by decide +kernel
theorem dX5_addVersion_50 : decode cX5_addVersion 50 = .ok (.ireturn, 1) := by decide +kernel
theorem dX5_latestOf_0 : decode cX5_latestOf 0 = .ok (.aload_n 0, 1) := by decide +kernel
theorem dX5_latestOf_1 : decode cX5_latestOf 1 = .ok (.getfield 49, 3) := by decide +kernel
theorem dX5_latestOf_4 : decode cX5_latestOf 4 = .ok (.iload_n 1, 1) := by decide +kernel
theorem dX5_latestOf_5 : decode cX5_latestOf 5 = .ok (.iconst 5, 1) := by decide +kernel
theorem dX5_latestOf_6 : decode cX5_latestOf 6 = .ok (.imul, 1) := by decide +kernel
theorem dX5_latestOf_7 : decode cX5_latestOf 7 = .ok (.aload_n 0, 1) := by decide +kernel
theorem dX5_latestOf_8 : decode cX5_latestOf 8 = .ok (.getfield 53, 3) := by decide +kernel
theorem dX5_latestOf_11 : decode cX5_latestOf 11 = .ok (.iload_n 1, 1) := by decide +kernel
theorem dX5_latestOf_12 : decode cX5_latestOf 12 = .ok (.iaload, 1) := by decide +kernel
theorem dX5_latestOf_13 : decode cX5_latestOf 13 = .ok (.iadd, 1) := by decide +kernel
theorem dX5_latestOf_14 : decode cX5_latestOf 14 = .ok (.iconst 1, 1) := by decide +kernel
theorem dX5_latestOf_15 : decode cX5_latestOf 15 = .ok (.isub, 1) := by decide +kernel
theorem dX5_latestOf_16 : decode cX5_latestOf 16 = .ok (.aaload, 1) := by decide +kernel
theorem dX5_latestOf_17 : decode cX5_latestOf 17 = .ok (.areturn, 1) := by decide +kernel
theorem dX5_versionNumberOf_0 : decode cX5_versionNumberOf 0 = .ok (.aload_n 1, 1) := by decide +kernel
theorem dX5_versionNumberOf_1 : decode cX5_versionNumberOf 1 = .ok (.getfield 110, 3) := by decide +kernel
theorem dX5_versionNumberOf_4 : decode cX5_versionNumberOf 4 = .ok (.ifCond .lt 10, 3) := by decide +kernel
theorem dX5_versionNumberOf_7 : decode cX5_versionNumberOf 7 = .ok (.aload_n 1, 1) := by decide +kernel
theorem dX5_versionNumberOf_8 : decode cX5_versionNumberOf 8 = .ok (.getfield 110, 3) := by decide +kernel
theorem dX5_versionNumberOf_11 : decode cX5_versionNumberOf 11 = .ok (.goto 14, 3) := by decide +kernel
theorem dX5_versionNumberOf_14 : decode cX5_versionNumberOf 14 = .ok (.aload_n 0, 1) := by decide +kernel
theorem dX5_versionNumberOf_15 : decode cX5_versionNumberOf 15 = .ok (.getfield 53, 3) := by decide +kernel
theorem dX5_versionNumberOf_18 : decode cX5_versionNumberOf 18 = .ok (.aload_n 1, 1) := by decide +kernel
theorem dX5_versionNumberOf_19 : decode cX5_versionNumberOf 19 = .ok (.getfield 115, 3) := by decide +kernel
theorem dX5_versionNumberOf_22 : decode cX5_versionNumberOf 22 = .ok (.iaload, 1) := by decide +kernel
theorem dX5_versionNumberOf_23 : decode cX5_versionNumberOf 23 = .ok (.iconst 1, 1) := by decide +kernel
theorem dX5_versionNumberOf_24 : decode cX5_versionNumberOf 24 = .ok (.isub, 1) := by decide +kernel
theorem dX5_versionNumberOf_25 : decode cX5_versionNumberOf 25 = .ok (.ireturn, 1) := by decide +kernel
theorem dX5_versionOf_0 : decode cX5_versionOf 0 = .ok (.aload_n 0, 1) := by decide +kernel
theorem dX5_versionOf_1 : decode cX5_versionOf 1 = .ok (.getfield 49, 3) := by decide +kernel
theorem dX5_versionOf_4 : decode cX5_versionOf 4 = .ok (.aload_n 1, 1) := by decide +kernel
theorem dX5_versionOf_5 : decode cX5_versionOf 5 = .ok (.getfield 115, 3) := by decide +kernel
theorem dX5_versionOf_8 : decode cX5_versionOf 8 = .ok (.iconst 5, 1) := by decide +kernel
theorem dX5_versionOf_9 : decode cX5_versionOf 9 = .ok (.imul, 1) := by decide +kernel
theorem dX5_versionOf_10 : decode cX5_versionOf 10 = .ok (.aload_n 0, 1) := by decide +kernel
theorem dX5_versionOf_11 : decode cX5_versionOf 11 = .ok (.aload_n 1, 1) := by decide +kernel
theorem dX5_versionOf_12 : decode cX5_versionOf 12 = .ok (.invokevirtual 118, 3) := by decide +kernel
theorem dX5_versionOf_15 : decode cX5_versionOf 15 = .ok (.iadd, 1) := by decide +kernel
theorem dX5_versionOf_16 : decode cX5_versionOf 16 = .ok (.aaload, 1) := by decide +kernel
theorem dX5_versionOf_17 : decode cX5_versionOf 17 = .ok (.areturn, 1) := by decide +kernel
theorem dX5_addNode_0 : decode cX5_addNode 0 = .ok (.aload_n 0, 1) := by decide +kernel
theorem dX5_addNode_1 : decode cX5_addNode 1 = .ok (.getfield 59, 3) := by decide +kernel
theorem dX5_addNode_4 : decode cX5_addNode 4 = .ok (.new 111, 3) := by decide +kernel
theorem dX5_addNode_7 : decode cX5_addNode 7 = .ok (.dup, 1) := by decide +kernel
theorem dX5_addNode_8 : decode cX5_addNode 8 = .ok (.aload_n 0, 1) := by decide +kernel
theorem dX5_addNode_9 : decode cX5_addNode 9 = .ok (.getfield 59, 3) := by decide +kernel
theorem dX5_addNode_12 : decode cX5_addNode 12 = .ok (.invokevirtual 122, 3) := by decide +kernel
theorem dX5_addNode_15 : decode cX5_addNode 15 = .ok (.iload_n 1, 1) := by decide +kernel
theorem dX5_addNode_16 : decode cX5_addNode 16 = .ok (.aload_n 2, 1) := by decide +kernel
theorem dX5_addNode_17 : decode cX5_addNode 17 = .ok (.iload_n 3, 1) := by decide +kernel
theorem dX5_addNode_18 : decode cX5_addNode 18 = .ok (.iload 4, 2) := by decide +kernel
theorem dX5_addNode_20 : decode cX5_addNode 20 = .ok (.iload 5, 2) := by decide +kernel
theorem dX5_addNode_22 : decode cX5_addNode 22 = .ok (.invokespecial 125, 3) := by decide +kernel
theorem dX5_addNode_25 : decode cX5_addNode 25 = .ok (.invokevirtual 128, 3) := by decide +kernel
theorem dX5_addNode_28 : decode cX5_addNode 28 = .ok (.pop, 1) := by decide +kernel
theorem dX5_addNode_29 : decode cX5_addNode 29 = .ok (.aload_n 0, 1) := by decide +kernel
theorem dX5_addNode_30 : decode cX5_addNode 30 = .ok (.getfield 59, 3) := by decide +kernel
theorem dX5_addNode_33 : decode cX5_addNode 33 = .ok (.invokevirtual 122, 3) := by decide +kernel
theorem dX5_addNode_36 : decode cX5_addNode 36 = .ok (.iconst 1, 1) := by decide +kernel
theorem dX5_addNode_37 : decode cX5_addNode 37 = .ok (.isub, 1) := by decide +kernel
theorem dX5_addNode_38 : decode cX5_addNode 38 = .ok (.ireturn, 1) := by decide +kernel
theorem dX5_addVersionTo_0 : decode cX5_addVersionTo 0 = .ok (.iconst 0, 1) := by decide +kernel
theorem dX5_addVersionTo_1 : decode cX5_addVersionTo 1 = .ok (.istore_n 3, 1) := by decide +kernel
theorem dX5_addVersionTo_2 : decode cX5_addVersionTo 2 = .ok (.iload_n 3, 1) := by decide +kernel
theorem dX5_addVersionTo_3 : decode cX5_addVersionTo 3 = .ok (.bipush 6, 2) := by decide +kernel
theorem dX5_addVersionTo_5 : decode cX5_addVersionTo 5 = .ok (.if_icmp .ge 38, 3) := by decide +kernel
theorem dX5_addVersionTo_8 : decode cX5_addVersionTo 8 = .ok (.aload_n 2, 1) := by decide +kernel
theorem dX5_addVersionTo_9 : decode cX5_addVersionTo 9 = .ok (.getfield 132, 3) := by decide +kernel
theorem dX5_addVersionTo_12 : decode cX5_addVersionTo 12 = .ok (.iload_n 3, 1) := by decide +kernel
theorem dX5_addVersionTo_13 : decode cX5_addVersionTo 13 = .ok (.iaload, 1) := by decide +kernel
theorem dX5_addVersionTo_14 : decode cX5_addVersionTo 14 = .ok (.istore 4, 2) := by decide +kernel
theorem dX5_addVersionTo_16 : decode cX5_addVersionTo 16 = .ok (.aload_n 1, 1) := by decide +kernel
theorem dX5_addVersionTo_17 : decode cX5_addVersionTo 17 = .ok (.iload 4, 2) := by decide +kernel
theorem dX5_addVersionTo_19 : decode cX5_addVersionTo 19 = .ok (.ifCond .ge 8, 3) := by decide +kernel
theorem dX5_addVersionTo_22 : decode cX5_addVersionTo 22 = .ok (.iload 4, 2) := by decide +kernel
theorem dX5_addVersionTo_24 : decode cX5_addVersionTo 24 = .ok (.goto 10, 3) := by decide +kernel
theorem dX5_addVersionTo_27 : decode cX5_addVersionTo 27 = .ok (.aload_n 0, 1) := by decide +kernel
theorem dX5_addVersionTo_28 : decode cX5_addVersionTo 28 = .ok (.getfield 23, 3) := by decide +kernel
theorem dX5_addVersionTo_31 : decode cX5_addVersionTo 31 = .ok (.iload 4, 2) := by decide +kernel
theorem dX5_addVersionTo_33 : decode cX5_addVersionTo 33 = .ok (.iaload, 1) := by decide +kernel
theorem dX5_addVersionTo_34 : decode cX5_addVersionTo 34 = .ok (.invokevirtual 135, 3) := by decide +kernel
theorem dX5_addVersionTo_37 : decode cX5_addVersionTo 37 = .ok (.iinc 3 1, 3) := by decide +kernel
theorem dX5_addVersionTo_40 : decode cX5_addVersionTo 40 = .ok (.goto (-38), 3) := by decide +kernel
theorem dX5_addVersionTo_43 : decode cX5_addVersionTo 43 = .ok (.iconst 0, 1) := by decide +kernel
theorem dX5_addVersionTo_44 : decode cX5_addVersionTo 44 = .ok (.istore_n 3, 1) := by decide +kernel
theorem dX5_addVersionTo_45 : decode cX5_addVersionTo 45 = .ok (.iload_n 3, 1) := by decide +kernel
theorem dX5_addVersionTo_46 : decode cX5_addVersionTo 46 = .ok (.bipush 10, 2) := by decide +kernel
theorem dX5_addVersionTo_48 : decode cX5_addVersionTo 48 = .ok (.if_icmp .ge 80, 3) := by decide +kernel
theorem dX5_addVersionTo_51 : decode cX5_addVersionTo 51 = .ok (.aload_n 2, 1) := by decide +kernel
theorem dX5_addVersionTo_52 : decode cX5_addVersionTo 52 = .ok (.iload_n 3, 1) := by decide +kernel
theorem dX5_addVersionTo_53 : decode cX5_addVersionTo 53 = .ok (.invokevirtual 140, 3) := by decide +kernel
theorem dX5_addVersionTo_56 : decode cX5_addVersionTo 56 = .ok (.ifCond .eq 60, 3) := by decide +kernel
theorem dX5_addVersionTo_59 : decode cX5_addVersionTo 59 = .ok (.aload_n 2, 1) := by decide +kernel
theorem dX5_addVersionTo_60 : decode cX5_addVersionTo 60 = .ok (.getfield 144, 3) := by decide +kernel
theorem dX5_addVersionTo_63 : decode cX5_addVersionTo 63 = .ok (.iload_n 3, 1) := by decide +kernel
theorem dX5_addVersionTo_64 : decode cX5_addVersionTo 64 = .ok (.iaload, 1) := by decide +kernel
theorem dX5_addVersionTo_65 : decode cX5_addVersionTo 65 = .ok (.istore 4, 2) := by decide +kernel
theorem dX5_addVersionTo_67 : decode cX5_addVersionTo 67 = .ok (.aload_n 1, 1) := by decide +kernel
theorem dX5_addVersionTo_68 : decode cX5_addVersionTo 68 = .ok (.aload_n 0, 1) := by decide +kernel
theorem dX5_addVersionTo_69 : decode cX5_addVersionTo 69 = .ok (.getfield 23, 3) := by decide +kernel
theorem dX5_addVersionTo_72 : decode cX5_addVersionTo 72 = .ok (.aload_n 2, 1) := by decide +kernel
theorem dX5_addVersionTo_73 : decode cX5_addVersionTo 73 = .ok (.getfield 147, 3) := by decide +kernel
theorem dX5_addVersionTo_76 : decode cX5_addVersionTo 76 = .ok (.iload_n 3, 1) := by decide +kernel
theorem dX5_addVersionTo_77 : decode cX5_addVersionTo 77 = .ok (.iaload, 1) := by decide +kernel
theorem dX5_addVersionTo_78 : decode cX5_addVersionTo 78 = .ok (.iaload, 1) := by decide +kernel
theorem dX5_addVersionTo_79 : decode cX5_addVersionTo 79 = .ok (.invokevirtual 135, 3) := by decide +kernel
theorem dX5_addVersionTo_82 : decode cX5_addVersionTo 82 = .ok (.aload_n 1, 1) := by decide +kernel
theorem dX5_addVersionTo_83 : decode cX5_addVersionTo 83 = .ok (.iload 4, 2) := by decide +kernel
theorem dX5_addVersionTo_85 : decode cX5_addVersionTo 85 = .ok (.ifCond .ge 8, 3) := by decide +kernel
theorem dX5_addVersionTo_88 : decode cX5_addVersionTo 88 = .ok (.iload 4, 2) := by decide +kernel
theorem dX5_addVersionTo_90 : decode cX5_addVersionTo 90 = .ok (.goto 10, 3) := by decide +kernel
theorem dX5_addVersionTo_93 : decode cX5_addVersionTo 93 = .ok (.aload_n 0, 1) := by decide +kernel
theorem dX5_addVersionTo_94 : decode cX5_addVersionTo 94 = .ok (.getfield 44, 3) := by decide +kernel
theorem dX5_addVersionTo_97 : decode cX5_addVersionTo 97 = .ok (.iload 4, 2) := by decide +kernel
theorem dX5_addVersionTo_99 : decode cX5_addVersionTo 99 = .ok (.iaload, 1) := by decide +kernel
theorem dX5_addVersionTo_100 : decode cX5_addVersionTo 100 = .ok (.invokevirtual 135, 3) := by decide +kernel
theorem dX5_addVersionTo_103 : decode cX5_addVersionTo 103 = .ok (.aload_n 1, 1) := by decide +kernel
theorem dX5_addVersionTo_104 : decode cX5_addVersionTo 104 = .ok (.aload_n 2, 1) := by decide +kernel
theorem dX5_addVersionTo_105 : decode cX5_addVersionTo 105 = .ok (.getfield 150, 3) := by decide +kernel
theorem dX5_addVersionTo_108 : decode cX5_addVersionTo 108 = .ok (.iload_n 3, 1) := by decide +kernel
theorem dX5_addVersionTo_109 : decode cX5_addVersionTo 109 = .ok (.iaload, 1) := by decide +kernel
theorem dX5_addVersionTo_110 : decode cX5_addVersionTo 110 = .ok (.invokevirtual 135, 3) := by decide +kernel
theorem dX5_addVersionTo_113 : decode cX5_addVersionTo 113 = .ok (.goto 9, 3) := by decide +kernel
theorem dX5_addVersionTo_116 : decode cX5_addVersionTo 116 = .ok (.aload_n 1, 1) := by decide +kernel
theorem dX5_addVersionTo_117 : decode cX5_addVersionTo 117 = .ok (.bipush (-2), 2) := by decide +kernel
theorem dX5_addVersionTo_119 : decode cX5_addVersionTo 119 = .ok (.invokevirtual 135, 3) := by decide +kernel
theorem dX5_addVersionTo_122 : decode cX5_addVersionTo 122 = .ok (.iinc 3 1, 3) := by decide +kernel
theorem dX5_addVersionTo_125 : decode cX5_addVersionTo 125 = .ok (.goto (-80), 3) := by decide +kernel
theorem dX5_addVersionTo_128 : decode cX5_addVersionTo 128 = .ok (.return_, 1) := by decide +kernel
theorem dX6_init_0 : decode cX6_init 0 = .ok (.aload_n 0, 1) := by decide +kernel
theorem dX6_init_1 : decode cX6_init 1 = .ok (.invokespecial 3, 3) := by decide +kernel
theorem dX6_init_4 : decode cX6_init 4 = .ok (.aload_n 0, 1) := by decide +kernel
theorem dX6_init_5 : decode cX6_init 5 = .ok (.bipush 16, 2) := by decide +kernel
theorem dX6_init_7 : decode cX6_init 7 = .ok (.newarray .int, 2) := by decide +kernel
theorem dX6_init_9 : decode cX6_init 9 = .ok (.putfield 9, 3) := by decide +kernel
theorem dX6_init_12 : decode cX6_init 12 = .ok (.return_, 1) := by decide +kernel
theorem dX6_clear_0 : decode cX6_clear 0 = .ok (.aload_n 0, 1) := by decide +kernel
theorem dX6_clear_1 : decode cX6_clear 1 = .ok (.iconst 0, 1) := by decide +kernel
theorem dX6_clear_2 : decode cX6_clear 2 = .ok (.putfield 15, 3) := by decide +kernel
theorem dX6_clear_5 : decode cX6_clear 5 = .ok (.return_, 1) := by decide +kernel
theorem dX6_add_0 : decode cX6_add 0 = .ok (.aload_n 0, 1) := by decide +kernel
theorem dX6_add_1 : decode cX6_add 1 = .ok (.getfield 15, 3) := by decide +kernel
theorem dX6_add_4 : decode cX6_add 4 = .ok (.aload_n 0, 1) := by decide +kernel
theorem dX6_add_5 : decode cX6_add 5 = .ok (.getfield 9, 3) := by decide +kernel
theorem dX6_add_8 : decode cX6_add 8 = .ok (.arraylength, 1) := by decide +kernel
theorem dX6_add_9 : decode cX6_add 9 = .ok (.if_icmp .lt 21, 3) := by decide +kernel
theorem dX6_add_12 : decode cX6_add 12 = .ok (.aload_n 0, 1) := by decide +kernel
theorem dX6_add_13 : decode cX6_add 13 = .ok (.aload_n 0, 1) := by decide +kernel
theorem dX6_add_14 : decode cX6_add 14 = .ok (.getfield 9, 3) := by decide +kernel
theorem dX6_add_17 : decode cX6_add 17 = .ok (.iconst 2, 1) := by decide +kernel
theorem dX6_add_18 : decode cX6_add 18 = .ok (.aload_n 0, 1) := by decide +kernel
theorem dX6_add_19 : decode cX6_add 19 = .ok (.getfield 9, 3) := by decide +kernel
theorem dX6_add_22 : decode cX6_add 22 = .ok (.arraylength, 1) := by decide +kernel
theorem dX6_add_23 : decode cX6_add 23 = .ok (.imul, 1) := by decide +kernel
theorem dX6_add_24 : decode cX6_add 24 = .ok (.invokestatic 19, 3) := by decide +kernel
theorem dX6_add_27 : decode cX6_add 27 = .ok (.putfield 9, 3) := by decide +kernel
theorem dX6_add_30 : decode cX6_add 30 = .ok (.aload_n 0, 1) := by decide +kernel
theorem dX6_add_31 : decode cX6_add 31 = .ok (.getfield 9, 3) := by decide +kernel
theorem dX6_add_34 : decode cX6_add 34 = .ok (.aload_n 0, 1) := by decide +kernel
theorem dX6_add_35 : decode cX6_add 35 = .ok (.getfield 15, 3) := by decide +kernel
theorem dX6_add_38 : decode cX6_add 38 = .ok (.iload_n 1, 1) := by decide +kernel
theorem dX6_add_39 : decode cX6_add 39 = .ok (.iastore, 1) := by decide +kernel
theorem dX6_add_40 : decode cX6_add 40 = .ok (.aload_n 0, 1) := by decide +kernel
theorem dX6_add_41 : decode cX6_add 41 = .ok (.dup, 1) := by decide +kernel
theorem dX6_add_42 : decode cX6_add 42 = .ok (.getfield 15, 3) := by decide +kernel
theorem dX6_add_45 : decode cX6_add 45 = .ok (.iconst 1, 1) := by decide +kernel
theorem dX6_add_46 : decode cX6_add 46 = .ok (.iadd, 1) := by decide +kernel
theorem dX6_add_47 : decode cX6_add 47 = .ok (.putfield 15, 3) := by decide +kernel
theorem dX6_add_50 : decode cX6_add 50 = .ok (.return_, 1) := by decide +kernel
theorem dX6_addFace_0 : decode cX6_addFace 0 = .ok (.aload_n 0, 1) := by decide +kernel
theorem dX6_addFace_1 : decode cX6_addFace 1 = .ok (.aload_n 1, 1) := by decide +kernel
theorem dX6_addFace_2 : decode cX6_addFace 2 = .ok (.getfield 25, 3) := by decide +kernel
theorem dX6_addFace_5 : decode cX6_addFace 5 = .ok (.invokevirtual 30, 3) := by decide +kernel
theorem dX6_addFace_8 : decode cX6_addFace 8 = .ok (.aload_n 1, 1) := by decide +kernel
theorem dX6_addFace_9 : decode cX6_addFace 9 = .ok (.getfield 25, 3) := by decide +kernel
theorem dX6_addFace_12 : decode cX6_addFace 12 = .ok (.ifCond .eq 4, 3) := by decide +kernel
theorem dX6_addFace_15 : decode cX6_addFace 15 = .ok (.return_, 1) := by decide +kernel
theorem dX6_addFace_16 : decode cX6_addFace 16 = .ok (.iconst 0, 1) := by decide +kernel
theorem dX6_addFace_17 : decode cX6_addFace 17 = .ok (.istore_n 3, 1) := by decide +kernel
theorem dX6_addFace_18 : decode cX6_addFace 18 = .ok (.iload_n 3, 1) := by decide +kernel
theorem dX6_addFace_19 : decode cX6_addFace 19 = .ok (.bipush 6, 2) := by decide +kernel
theorem dX6_addFace_21 : decode cX6_addFace 21 = .ok (.if_icmp .ge 35, 3) := by decide +kernel
theorem dX6_addFace_24 : decode cX6_addFace 24 = .ok (.aload_n 0, 1) := by decide +kernel
theorem dX6_addFace_25 : decode cX6_addFace 25 = .ok (.aload_n 1, 1) := by decide +kernel
theorem dX6_addFace_26 : decode cX6_addFace 26 = .ok (.getfield 34, 3) := by decide +kernel
theorem dX6_addFace_29 : decode cX6_addFace 29 = .ok (.iload_n 3, 1) := by decide +kernel
theorem dX6_addFace_30 : decode cX6_addFace 30 = .ok (.iaload, 1) := by decide +kernel
theorem dX6_addFace_31 : decode cX6_addFace 31 = .ok (.invokevirtual 30, 3) := by decide +kernel
theorem dX6_addFace_34 : decode cX6_addFace 34 = .ok (.aload_n 0, 1) := by decide +kernel
theorem dX6_addFace_35 : decode cX6_addFace 35 = .ok (.aload_n 1, 1) := by decide +kernel
theorem dX6_addFace_36 : decode cX6_addFace 36 = .ok (.getfield 37, 3) := by decide +kernel
theorem dX6_addFace_39 : decode cX6_addFace 39 = .ok (.iload_n 3, 1) := by decide +kernel
theorem dX6_addFace_40 : decode cX6_addFace 40 = .ok (.aaload, 1) := by decide +kernel
theorem dX6_addFace_41 : decode cX6_addFace 41 = .ok (.aload_n 1, 1) := by decide +kernel
theorem dX6_addFace_42 : decode cX6_addFace 42 = .ok (.getfield 41, 3) := by decide +kernel
theorem dX6_addFace_45 : decode cX6_addFace 45 = .ok (.iload_n 3, 1) := by decide +kernel
theorem dX6_addFace_46 : decode cX6_addFace 46 = .ok (.iaload, 1) := by decide +kernel
theorem dX6_addFace_47 : decode cX6_addFace 47 = .ok (.invokevirtual 44, 3) := by decide +kernel
theorem dX6_addFace_50 : decode cX6_addFace 50 = .ok (.iinc 3 1, 3) := by decide +kernel
theorem dX6_addFace_53 : decode cX6_addFace 53 = .ok (.goto (-35), 3) := by decide +kernel
theorem dX6_addFace_56 : decode cX6_addFace 56 = .ok (.iconst 0, 1) := by decide +kernel
theorem dX6_addFace_57 : decode cX6_addFace 57 = .ok (.istore_n 3, 1) := by decide +kernel
theorem dX6_addFace_58 : decode cX6_addFace 58 = .ok (.iload_n 3, 1) := by decide +kernel
theorem dX6_addFace_59 : decode cX6_addFace 59 = .ok (.bipush 10, 2) := by decide +kernel
theorem dX6_addFace_61 : decode cX6_addFace 61 = .ok (.if_icmp .ge 23, 3) := by decide +kernel
theorem dX6_addFace_64 : decode cX6_addFace 64 = .ok (.iload_n 2, 1) := by decide +kernel
theorem dX6_addFace_65 : decode cX6_addFace 65 = .ok (.iload_n 3, 1) := by decide +kernel
theorem dX6_addFace_66 : decode cX6_addFace 66 = .ok (.invokestatic 48, 3) := by decide +kernel
theorem dX6_addFace_69 : decode cX6_addFace 69 = .ok (.ifCond .eq 9, 3) := by decide +kernel
theorem dX6_addFace_72 : decode cX6_addFace 72 = .ok (.aload_n 0, 1) := by decide +kernel
theorem dX6_addFace_73 : decode cX6_addFace 73 = .ok (.aload_n 1, 1) := by decide +kernel
theorem dX6_addFace_74 : decode cX6_addFace 74 = .ok (.iload_n 3, 1) := by decide +kernel
theorem dX6_addFace_75 : decode cX6_addFace 75 = .ok (.invokevirtual 52, 3) := by decide +kernel
theorem dX6_addFace_78 : decode cX6_addFace 78 = .ok (.iinc 3 1, 3) := by decide +kernel
theorem dX6_addFace_81 : decode cX6_addFace 81 = .ok (.goto (-23), 3) := by decide +kernel
theorem dX6_addFace_84 : decode cX6_addFace 84 = .ok (.return_, 1) := by decide +kernel
theorem dX6_addValue_0 : decode cX6_addValue 0 = .ok (.aload_n 0, 1) := by decide +kernel
theorem dX6_addValue_1 : decode cX6_addValue 1 = .ok (.aload_n 1, 1) := by decide +kernel
theorem dX6_addValue_2 : decode cX6_addValue 2 = .ok (.getfield 56, 3) := by decide +kernel
theorem dX6_addValue_5 : decode cX6_addValue 5 = .ok (.iload_n 2, 1) := by decide +kernel
theorem dX6_addValue_6 : decode cX6_addValue 6 = .ok (.iaload, 1) := by decide +kernel
theorem dX6_addValue_7 : decode cX6_addValue 7 = .ok (.invokevirtual 30, 3) := by decide +kernel
theorem dX6_addValue_10 : decode cX6_addValue 10 = .ok (.aload_n 0, 1) := by decide +kernel
theorem dX6_addValue_11 : decode cX6_addValue 11 = .ok (.aload_n 1, 1) := by decide +kernel
theorem dX6_addValue_12 : decode cX6_addValue 12 = .ok (.getfield 37, 3) := by decide +kernel
theorem dX6_addValue_15 : decode cX6_addValue 15 = .ok (.bipush 6, 2) := by decide +kernel
theorem dX6_addValue_17 : decode cX6_addValue 17 = .ok (.iload_n 2, 1) := by decide +kernel
theorem dX6_addValue_18 : decode cX6_addValue 18 = .ok (.iadd, 1) := by decide +kernel
theorem dX6_addValue_19 : decode cX6_addValue 19 = .ok (.aaload, 1) := by decide +kernel
theorem dX6_addValue_20 : decode cX6_addValue 20 = .ok (.aload_n 1, 1) := by decide +kernel
theorem dX6_addValue_21 : decode cX6_addValue 21 = .ok (.getfield 41, 3) := by decide +kernel
theorem dX6_addValue_24 : decode cX6_addValue 24 = .ok (.bipush 6, 2) := by decide +kernel
theorem dX6_addValue_26 : decode cX6_addValue 26 = .ok (.iload_n 2, 1) := by decide +kernel
theorem dX6_addValue_27 : decode cX6_addValue 27 = .ok (.iadd, 1) := by decide +kernel
theorem dX6_addValue_28 : decode cX6_addValue 28 = .ok (.iaload, 1) := by decide +kernel
theorem dX6_addValue_29 : decode cX6_addValue 29 = .ok (.invokevirtual 44, 3) := by decide +kernel
theorem dX6_addValue_32 : decode cX6_addValue 32 = .ok (.aload_n 0, 1) := by decide +kernel
theorem dX6_addValue_33 : decode cX6_addValue 33 = .ok (.aload_n 1, 1) := by decide +kernel
theorem dX6_addValue_34 : decode cX6_addValue 34 = .ok (.getfield 59, 3) := by decide +kernel
theorem dX6_addValue_37 : decode cX6_addValue 37 = .ok (.iload_n 2, 1) := by decide +kernel
theorem dX6_addValue_38 : decode cX6_addValue 38 = .ok (.baload, 1) := by decide +kernel
theorem dX6_addValue_39 : decode cX6_addValue 39 = .ok (.ifCond .eq 7, 3) := by decide +kernel
theorem dX6_addValue_42 : decode cX6_addValue 42 = .ok (.iconst 1, 1) := by decide +kernel
theorem dX6_addValue_43 : decode cX6_addValue 43 = .ok (.goto 4, 3) := by decide +kernel
theorem dX6_addValue_46 : decode cX6_addValue 46 = .ok (.iconst 0, 1) := by decide +kernel
theorem dX6_addValue_47 : decode cX6_addValue 47 = .ok (.invokevirtual 30, 3) := by decide +kernel
theorem dX6_addValue_50 : decode cX6_addValue 50 = .ok (.aload_n 0, 1) := by decide +kernel
theorem dX6_addValue_51 : decode cX6_addValue 51 = .ok (.aload_n 1, 1) := by decide +kernel
theorem dX6_addValue_52 : decode cX6_addValue 52 = .ok (.getfield 59, 3) := by decide +kernel
theorem dX6_addValue_55 : decode cX6_addValue 55 = .ok (.iload_n 2, 1) := by decide +kernel
theorem dX6_addValue_56 : decode cX6_addValue 56 = .ok (.baload, 1) := by decide +kernel
theorem dX6_addValue_57 : decode cX6_addValue 57 = .ok (.ifCond .eq 12, 3) := by decide +kernel
theorem dX6_addValue_60 : decode cX6_addValue 60 = .ok (.aload_n 1, 1) := by decide +kernel
theorem dX6_addValue_61 : decode cX6_addValue 61 = .ok (.getfield 63, 3) := by decide +kernel
theorem dX6_addValue_64 : decode cX6_addValue 64 = .ok (.iload_n 2, 1) := by decide +kernel
theorem dX6_addValue_65 : decode cX6_addValue 65 = .ok (.iaload, 1) := by decide +kernel
theorem dX6_addValue_66 : decode cX6_addValue 66 = .ok (.goto 4, 3) := by decide +kernel
theorem dX6_addValue_69 : decode cX6_addValue 69 = .ok (.iconst 0, 1) := by decide +kernel
theorem dX6_addValue_70 : decode cX6_addValue 70 = .ok (.invokevirtual 30, 3) := by decide +kernel
theorem dX6_addValue_73 : decode cX6_addValue 73 = .ok (.return_, 1) := by decide +kernel
theorem dX6_addParts_0 : decode cX6_addParts 0 = .ok (.aload_n 0, 1) := by decide +kernel
theorem dX6_addParts_1 : decode cX6_addParts 1 = .ok (.iload_n 2, 1) := by decide +kernel
theorem dX6_addParts_2 : decode cX6_addParts 2 = .ok (.invokevirtual 30, 3) := by decide +kernel
theorem dX6_addParts_5 : decode cX6_addParts 5 = .ok (.iconst 0, 1) := by decide +kernel
theorem dX6_addParts_6 : decode cX6_addParts 6 = .ok (.istore_n 3, 1) := by decide +kernel
theorem dX6_addParts_7 : decode cX6_addParts 7 = .ok (.iload_n 3, 1) := by decide +kernel
theorem dX6_addParts_8 : decode cX6_addParts 8 = .ok (.iload_n 2, 1) := by decide +kernel
theorem dX6_addParts_9 : decode cX6_addParts 9 = .ok (.if_icmp .ge 22, 3) := by decide +kernel
theorem dX6_addParts_12 : decode cX6_addParts 12 = .ok (.iload_n 3, 1) := by decide +kernel
theorem dX6_addParts_13 : decode cX6_addParts 13 = .ok (.aload_n 1, 1) := by decide +kernel
theorem dX6_addParts_14 : decode cX6_addParts 14 = .ok (.arraylength, 1) := by decide +kernel
theorem dX6_addParts_15 : decode cX6_addParts 15 = .ok (.if_icmp .ge 16, 3) := by decide +kernel
theorem dX6_addParts_18 : decode cX6_addParts 18 = .ok (.aload_n 0, 1) := by decide +kernel
theorem dX6_addParts_19 : decode cX6_addParts 19 = .ok (.aload_n 1, 1) := by decide +kernel
theorem dX6_addParts_20 : decode cX6_addParts 20 = .ok (.iload_n 3, 1) := by decide +kernel
theorem dX6_addParts_21 : decode cX6_addParts 21 = .ok (.iaload, 1) := by decide +kernel
theorem dX6_addParts_22 : decode cX6_addParts 22 = .ok (.invokevirtual 30, 3) := by decide +kernel
theorem dX6_addParts_25 : decode cX6_addParts 25 = .ok (.iinc 3 1, 3) := by decide +kernel
theorem dX6_addParts_28 : decode cX6_addParts 28 = .ok (.goto (-21), 3) := by decide +kernel
theorem dX6_addParts_31 : decode cX6_addParts 31 = .ok (.return_, 1) := by decide +kernel
theorem dX6_keep_0 : decode cX6_keep 0 = .ok (.aload_n 0, 1) := by decide +kernel
theorem dX6_keep_1 : decode cX6_keep 1 = .ok (.getfield 9, 3) := by decide +kernel
theorem dX6_keep_4 : decode cX6_keep 4 = .ok (.arraylength, 1) := by decide +kernel
theorem dX6_keep_5 : decode cX6_keep 5 = .ok (.aload_n 1, 1) := by decide +kernel
theorem dX6_keep_6 : decode cX6_keep 6 = .ok (.getfield 15, 3) := by decide +kernel
theorem dX6_keep_9 : decode cX6_keep 9 = .ok (.if_icmp .ge 23, 3) := by decide +kernel
theorem dX6_keep_12 : decode cX6_keep 12 = .ok (.aload_n 0, 1) := by decide +kernel
theorem dX6_keep_13 : decode cX6_keep 13 = .ok (.aload_n 1, 1) := by decide +kernel
theorem dX6_keep_14 : decode cX6_keep 14 = .ok (.getfield 15, 3) := by decide +kernel
theorem dX6_keep_17 : decode cX6_keep 17 = .ok (.iconst 2, 1) := by decide +kernel
theorem dX6_keep_18 : decode cX6_keep 18 = .ok (.aload_n 0, 1) := by decide +kernel
theorem dX6_keep_19 : decode cX6_keep 19 = .ok (.getfield 9, 3) := by decide +kernel
theorem dX6_keep_22 : decode cX6_keep 22 = .ok (.arraylength, 1) := by decide +kernel
theorem dX6_keep_23 : decode cX6_keep 23 = .ok (.imul, 1) := by decide +kernel
theorem dX6_keep_24 : decode cX6_keep 24 = .ok (.invokestatic 66, 3) := by decide +kernel
theorem dX6_keep_27 : decode cX6_keep 27 = .ok (.newarray .int, 2) := by decide +kernel
theorem dX6_keep_29 : decode cX6_keep 29 = .ok (.putfield 9, 3) := by decide +kernel
theorem dX6_keep_32 : decode cX6_keep 32 = .ok (.aload_n 1, 1) := by decide +kernel
theorem dX6_keep_33 : decode cX6_keep 33 = .ok (.getfield 9, 3) := by decide +kernel
theorem dX6_keep_36 : decode cX6_keep 36 = .ok (.iconst 0, 1) := by decide +kernel
theorem dX6_keep_37 : decode cX6_keep 37 = .ok (.aload_n 0, 1) := by decide +kernel
theorem dX6_keep_38 : decode cX6_keep 38 = .ok (.getfield 9, 3) := by decide +kernel
theorem dX6_keep_41 : decode cX6_keep 41 = .ok (.iconst 0, 1) := by decide +kernel
theorem dX6_keep_42 : decode cX6_keep 42 = .ok (.aload_n 1, 1) := by decide +kernel
theorem dX6_keep_43 : decode cX6_keep 43 = .ok (.getfield 15, 3) := by decide +kernel
theorem dX6_keep_46 : decode cX6_keep 46 = .ok (.invokestatic 72, 3) := by decide +kernel
theorem dX6_keep_49 : decode cX6_keep 49 = .ok (.aload_n 0, 1) := by decide +kernel
theorem dX6_keep_50 : decode cX6_keep 50 = .ok (.aload_n 1, 1) := by decide +kernel
theorem dX6_keep_51 : decode cX6_keep 51 = .ok (.getfield 15, 3) := by decide +kernel
theorem dX6_keep_54 : decode cX6_keep 54 = .ok (.putfield 15, 3) := by decide +kernel
theorem dX6_keep_57 : decode cX6_keep 57 = .ok (.return_, 1) := by decide +kernel
theorem dX6_isSameAs_0 : decode cX6_isSameAs 0 = .ok (.aload_n 0, 1) := by decide +kernel
theorem dX6_isSameAs_1 : decode cX6_isSameAs 1 = .ok (.getfield 9, 3) := by decide +kernel
theorem dX6_isSameAs_4 : decode cX6_isSameAs 4 = .ok (.aload_n 0, 1) := by decide +kernel
theorem dX6_isSameAs_5 : decode cX6_isSameAs 5 = .ok (.getfield 15, 3) := by decide +kernel
theorem dX6_isSameAs_8 : decode cX6_isSameAs 8 = .ok (.aload_n 1, 1) := by decide +kernel
theorem dX6_isSameAs_9 : decode cX6_isSameAs 9 = .ok (.getfield 9, 3) := by decide +kernel
theorem dX6_isSameAs_12 : decode cX6_isSameAs 12 = .ok (.aload_n 1, 1) := by decide +kernel
theorem dX6_isSameAs_13 : decode cX6_isSameAs 13 = .ok (.getfield 15, 3) := by decide +kernel
theorem dX6_isSameAs_16 : decode cX6_isSameAs 16 = .ok (.invokestatic 78, 3) := by decide +kernel
theorem dX6_isSameAs_19 : decode cX6_isSameAs 19 = .ok (.ireturn, 1) := by decide +kernel
theorem dX7_init_0 : decode cX7_init 0 = .ok (.aload_n 0, 1) := by decide +kernel
theorem dX7_init_1 : decode cX7_init 1 = .ok (.invokespecial 1, 3) := by decide +kernel
theorem dX7_init_4 : decode cX7_init 4 = .ok (.aload_n 0, 1) := by decide +kernel
theorem dX7_init_5 : decode cX7_init 5 = .ok (.sipush 320, 3) := by decide +kernel
theorem dX7_init_8 : decode cX7_init 8 = .ok (.newarray .int, 2) := by decide +kernel
theorem dX7_init_10 : decode cX7_init 10 = .ok (.putfield 9, 3) := by decide +kernel
theorem dX7_init_13 : decode cX7_init 13 = .ok (.aload_n 0, 1) := by decide +kernel
theorem dX7_init_14 : decode cX7_init 14 = .ok (.bipush 64, 2) := by decide +kernel
theorem dX7_init_16 : decode cX7_init 16 = .ok (.newarray .int, 2) := by decide +kernel
theorem dX7_init_18 : decode cX7_init 18 = .ok (.putfield 13, 3) := by decide +kernel
theorem dX7_init_21 : decode cX7_init 21 = .ok (.aload_n 0, 1) := by decide +kernel
theorem dX7_init_22 : decode cX7_init 22 = .ok (.getfield 13, 3) := by decide +kernel
theorem dX7_init_25 : decode cX7_init 25 = .ok (.iconst (-1), 1) := by decide +kernel
theorem dX7_init_26 : decode cX7_init 26 = .ok (.invokestatic 16, 3) := by decide +kernel
theorem dX7_init_29 : decode cX7_init 29 = .ok (.return_, 1) := by decide +kernel
theorem dX7_numberOf_0 : decode cX7_numberOf 0 = .ok (.iload_n 1, 1) := by decide +kernel
theorem dX7_numberOf_1 : decode cX7_numberOf 1 = .ok (.bipush 31, 2) := by decide +kernel
theorem dX7_numberOf_3 : decode cX7_numberOf 3 = .ok (.imul, 1) := by decide +kernel
theorem dX7_numberOf_4 : decode cX7_numberOf 4 = .ok (.iload_n 2, 1) := by decide +kernel
theorem dX7_numberOf_5 : decode cX7_numberOf 5 = .ok (.iadd, 1) := by decide +kernel
theorem dX7_numberOf_6 : decode cX7_numberOf 6 = .ok (.sipush 1009, 3) := by decide +kernel
theorem dX7_numberOf_9 : decode cX7_numberOf 9 = .ok (.imul, 1) := by decide +kernel
theorem dX7_numberOf_10 : decode cX7_numberOf 10 = .ok (.iload_n 3, 1) := by decide +kernel
theorem dX7_numberOf_11 : decode cX7_numberOf 11 = .ok (.iadd, 1) := by decide +kernel
theorem dX7_numberOf_12 : decode cX7_numberOf 12 = .ok (.sipush 1013, 3) := by decide +kernel
theorem dX7_numberOf_15 : decode cX7_numberOf 15 = .ok (.imul, 1) := by decide +kernel
theorem dX7_numberOf_16 : decode cX7_numberOf 16 = .ok (.iload 4, 2) := by decide +kernel
theorem dX7_numberOf_18 : decode cX7_numberOf 18 = .ok (.iadd, 1) := by decide +kernel
theorem dX7_numberOf_19 : decode cX7_numberOf 19 = .ok (.istore 5, 2) := by decide +kernel
theorem dX7_numberOf_21 : decode cX7_numberOf 21 = .ok (.iload 5, 2) := by decide +kernel
theorem dX7_numberOf_23 : decode cX7_numberOf 23 = .ok (.iload 5, 2) := by decide +kernel
theorem dX7_numberOf_25 : decode cX7_numberOf 25 = .ok (.bipush 15, 2) := by decide +kernel
theorem dX7_numberOf_27 : decode cX7_numberOf 27 = .ok (.iushr, 1) := by decide +kernel
theorem dX7_numberOf_28 : decode cX7_numberOf 28 = .ok (.ixor, 1) := by decide +kernel
theorem dX7_numberOf_29 : decode cX7_numberOf 29 = .ok (.aload_n 0, 1) := by decide +kernel
theorem dX7_numberOf_30 : decode cX7_numberOf 30 = .ok (.getfield 13, 3) := by decide +kernel
theorem dX7_numberOf_33 : decode cX7_numberOf 33 = .ok (.arraylength, 1) := by decide +kernel
theorem dX7_numberOf_34 : decode cX7_numberOf 34 = .ok (.iconst 1, 1) := by decide +kernel
theorem dX7_numberOf_35 : decode cX7_numberOf 35 = .ok (.isub, 1) := by decide +kernel
theorem dX7_numberOf_36 : decode cX7_numberOf 36 = .ok (.iand, 1) := by decide +kernel
theorem dX7_numberOf_37 : decode cX7_numberOf 37 = .ok (.istore 6, 2) := by decide +kernel
theorem dX7_numberOf_39 : decode cX7_numberOf 39 = .ok (.aload_n 0, 1) := by decide +kernel
theorem dX7_numberOf_40 : decode cX7_numberOf 40 = .ok (.getfield 13, 3) := by decide +kernel
theorem dX7_numberOf_43 : decode cX7_numberOf 43 = .ok (.iload 6, 2) := by decide +kernel
theorem dX7_numberOf_45 : decode cX7_numberOf 45 = .ok (.iaload, 1) := by decide +kernel
theorem dX7_numberOf_46 : decode cX7_numberOf 46 = .ok (.istore 7, 2) := by decide +kernel
theorem dX7_numberOf_48 : decode cX7_numberOf 48 = .ok (.iconst 0, 1) := by decide +kernel
theorem dX7_numberOf_49 : decode cX7_numberOf 49 = .ok (.istore 8, 2) := by decide +kernel
theorem dX7_numberOf_51 : decode cX7_numberOf 51 = .ok (.iload 8, 2) := by decide +kernel
theorem dX7_numberOf_53 : decode cX7_numberOf 53 = .ok (.aload_n 0, 1) := by decide +kernel
theorem dX7_numberOf_54 : decode cX7_numberOf 54 = .ok (.getfield 22, 3) := by decide +kernel
theorem dX7_numberOf_57 : decode cX7_numberOf 57 = .ok (.if_icmp .ge 85, 3) := by decide +kernel
theorem dX7_numberOf_60 : decode cX7_numberOf 60 = .ok (.iload 7, 2) := by decide +kernel
theorem dX7_numberOf_62 : decode cX7_numberOf 62 = .ok (.ifCond .lt 80, 3) := by decide +kernel
theorem dX7_numberOf_65 : decode cX7_numberOf 65 = .ok (.iconst 5, 1) := by decide +kernel
theorem dX7_numberOf_66 : decode cX7_numberOf 66 = .ok (.iload 7, 2) := by decide +kernel
theorem dX7_numberOf_68 : decode cX7_numberOf 68 = .ok (.imul, 1) := by decide +kernel
theorem dX7_numberOf_69 : decode cX7_numberOf 69 = .ok (.istore 9, 2) := by decide +kernel
theorem dX7_numberOf_71 : decode cX7_numberOf 71 = .ok (.aload_n 0, 1) := by decide +kernel
theorem dX7_numberOf_72 : decode cX7_numberOf 72 = .ok (.getfield 9, 3) := by decide +kernel
theorem dX7_numberOf_75 : decode cX7_numberOf 75 = .ok (.iload 9, 2) := by decide +kernel
theorem dX7_numberOf_77 : decode cX7_numberOf 77 = .ok (.iaload, 1) := by decide +kernel
theorem dX7_numberOf_78 : decode cX7_numberOf 78 = .ok (.iload_n 1, 1) := by decide +kernel
theorem dX7_numberOf_79 : decode cX7_numberOf 79 = .ok (.if_icmp .ne 46, 3) := by decide +kernel
theorem dX7_numberOf_82 : decode cX7_numberOf 82 = .ok (.aload_n 0, 1) := by decide +kernel
theorem dX7_numberOf_83 : decode cX7_numberOf 83 = .ok (.getfield 9, 3) := by decide +kernel
theorem dX7_numberOf_86 : decode cX7_numberOf 86 = .ok (.iload 9, 2) := by decide +kernel
theorem dX7_numberOf_88 : decode cX7_numberOf 88 = .ok (.iconst 1, 1) := by decide +kernel
theorem dX7_numberOf_89 : decode cX7_numberOf 89 = .ok (.iadd, 1) := by decide +kernel
theorem dX7_numberOf_90 : decode cX7_numberOf 90 = .ok (.iaload, 1) := by decide +kernel
theorem dX7_numberOf_91 : decode cX7_numberOf 91 = .ok (.iload_n 2, 1) := by decide +kernel
theorem dX7_numberOf_92 : decode cX7_numberOf 92 = .ok (.if_icmp .ne 33, 3) := by decide +kernel
theorem dX7_numberOf_95 : decode cX7_numberOf 95 = .ok (.aload_n 0, 1) := by decide +kernel
theorem dX7_numberOf_96 : decode cX7_numberOf 96 = .ok (.getfield 9, 3) := by decide +kernel
theorem dX7_numberOf_99 : decode cX7_numberOf 99 = .ok (.iload 9, 2) := by decide +kernel
theorem dX7_numberOf_101 : decode cX7_numberOf 101 = .ok (.iconst 2, 1) := by decide +kernel
theorem dX7_numberOf_102 : decode cX7_numberOf 102 = .ok (.iadd, 1) := by decide +kernel
theorem dX7_numberOf_103 : decode cX7_numberOf 103 = .ok (.iaload, 1) := by decide +kernel
theorem dX7_numberOf_104 : decode cX7_numberOf 104 = .ok (.iload_n 3, 1) := by decide +kernel
theorem dX7_numberOf_105 : decode cX7_numberOf 105 = .ok (.if_icmp .ne 20, 3) := by decide +kernel
theorem dX7_numberOf_108 : decode cX7_numberOf 108 = .ok (.aload_n 0, 1) := by decide +kernel
theorem dX7_numberOf_109 : decode cX7_numberOf 109 = .ok (.getfield 9, 3) := by decide +kernel
theorem dX7_numberOf_112 : decode cX7_numberOf 112 = .ok (.iload 9, 2) := by decide +kernel
theorem dX7_numberOf_114 : decode cX7_numberOf 114 = .ok (.iconst 3, 1) := by decide +kernel
theorem dX7_numberOf_115 : decode cX7_numberOf 115 = .ok (.iadd, 1) := by decide +kernel
theorem dX7_numberOf_116 : decode cX7_numberOf 116 = .ok (.iaload, 1) := by decide +kernel
theorem dX7_numberOf_117 : decode cX7_numberOf 117 = .ok (.iload 4, 2) := by decide +kernel
theorem dX7_numberOf_119 : decode cX7_numberOf 119 = .ok (.if_icmp .ne 6, 3) := by decide +kernel
theorem dX7_numberOf_122 : decode cX7_numberOf 122 = .ok (.iload 7, 2) := by decide +kernel
theorem dX7_numberOf_124 : decode cX7_numberOf 124 = .ok (.ireturn, 1) := by decide +kernel
theorem dX7_numberOf_125 : decode cX7_numberOf 125 = .ok (.aload_n 0, 1) := by decide +kernel
theorem dX7_numberOf_126 : decode cX7_numberOf 126 = .ok (.getfield 9, 3) := by decide +kernel
theorem dX7_numberOf_129 : decode cX7_numberOf 129 = .ok (.iload 9, 2) := by decide +kernel
theorem dX7_numberOf_131 : decode cX7_numberOf 131 = .ok (.iconst 4, 1) := by decide +kernel
theorem dX7_numberOf_132 : decode cX7_numberOf 132 = .ok (.iadd, 1) := by decide +kernel
theorem dX7_numberOf_133 : decode cX7_numberOf 133 = .ok (.iaload, 1) := by decide +kernel
theorem dX7_numberOf_134 : decode cX7_numberOf 134 = .ok (.istore 7, 2) := by decide +kernel
theorem dX7_numberOf_136 : decode cX7_numberOf 136 = .ok (.iinc 8 1, 3) := by decide +kernel
theorem dX7_numberOf_139 : decode cX7_numberOf 139 = .ok (.goto (-88), 3) := by decide +kernel
theorem dX7_numberOf_142 : decode cX7_numberOf 142 = .ok (.iconst 5, 1) := by decide +kernel
theorem dX7_numberOf_143 : decode cX7_numberOf 143 = .ok (.aload_n 0, 1) := by decide +kernel
theorem dX7_numberOf_144 : decode cX7_numberOf 144 = .ok (.getfield 22, 3) := by decide +kernel
theorem dX7_numberOf_147 : decode cX7_numberOf 147 = .ok (.imul, 1) := by decide +kernel
theorem dX7_numberOf_148 : decode cX7_numberOf 148 = .ok (.istore 8, 2) := by decide +kernel
theorem dX7_numberOf_150 : decode cX7_numberOf 150 = .ok (.iload 8, 2) := by decide +kernel
theorem dX7_numberOf_152 : decode cX7_numberOf 152 = .ok (.aload_n 0, 1) := by decide +kernel
theorem dX7_numberOf_153 : decode cX7_numberOf 153 = .ok (.getfield 9, 3) := by decide +kernel
theorem dX7_numberOf_156 : decode cX7_numberOf 156 = .ok (.arraylength, 1) := by decide +kernel
theorem dX7_numberOf_157 : decode cX7_numberOf 157 = .ok (.if_icmp .lt 21, 3) := by decide +kernel
theorem dX7_numberOf_160 : decode cX7_numberOf 160 = .ok (.aload_n 0, 1) := by decide +kernel
theorem dX7_numberOf_161 : decode cX7_numberOf 161 = .ok (.aload_n 0, 1) := by decide +kernel
theorem dX7_numberOf_162 : decode cX7_numberOf 162 = .ok (.getfield 9, 3) := by decide +kernel
theorem dX7_numberOf_165 : decode cX7_numberOf 165 = .ok (.iconst 2, 1) := by decide +kernel
theorem dX7_numberOf_166 : decode cX7_numberOf 166 = .ok (.aload_n 0, 1) := by decide +kernel
theorem dX7_numberOf_167 : decode cX7_numberOf 167 = .ok (.getfield 9, 3) := by decide +kernel
theorem dX7_numberOf_170 : decode cX7_numberOf 170 = .ok (.arraylength, 1) := by decide +kernel
theorem dX7_numberOf_171 : decode cX7_numberOf 171 = .ok (.imul, 1) := by decide +kernel
theorem dX7_numberOf_172 : decode cX7_numberOf 172 = .ok (.invokestatic 26, 3) := by decide +kernel
theorem dX7_numberOf_175 : decode cX7_numberOf 175 = .ok (.putfield 9, 3) := by decide +kernel
theorem dX7_numberOf_178 : decode cX7_numberOf 178 = .ok (.aload_n 0, 1) := by decide +kernel
theorem dX7_numberOf_179 : decode cX7_numberOf 179 = .ok (.getfield 9, 3) := by decide +kernel
theorem dX7_numberOf_182 : decode cX7_numberOf 182 = .ok (.iload 8, 2) := by decide +kernel
theorem dX7_numberOf_184 : decode cX7_numberOf 184 = .ok (.iload_n 1, 1) := by decide +kernel
theorem dX7_numberOf_185 : decode cX7_numberOf 185 = .ok (.iastore, 1) := by decide +kernel
theorem dX7_numberOf_186 : decode cX7_numberOf 186 = .ok (.aload_n 0, 1) := by decide +kernel
theorem dX7_numberOf_187 : decode cX7_numberOf 187 = .ok (.getfield 9, 3) := by decide +kernel
theorem dX7_numberOf_190 : decode cX7_numberOf 190 = .ok (.iload 8, 2) := by decide +kernel
theorem dX7_numberOf_192 : decode cX7_numberOf 192 = .ok (.iconst 1, 1) := by decide +kernel
theorem dX7_numberOf_193 : decode cX7_numberOf 193 = .ok (.iadd, 1) := by decide +kernel
theorem dX7_numberOf_194 : decode cX7_numberOf 194 = .ok (.iload_n 2, 1) := by decide +kernel
theorem dX7_numberOf_195 : decode cX7_numberOf 195 = .ok (.iastore, 1) := by decide +kernel
theorem dX7_numberOf_196 : decode cX7_numberOf 196 = .ok (.aload_n 0, 1) := by decide +kernel
theorem dX7_numberOf_197 : decode cX7_numberOf 197 = .ok (.getfield 9, 3) := by decide +kernel
theorem dX7_numberOf_200 : decode cX7_numberOf 200 = .ok (.iload 8, 2) := by decide +kernel
theorem dX7_numberOf_202 : decode cX7_numberOf 202 = .ok (.iconst 2, 1) := by decide +kernel
theorem dX7_numberOf_203 : decode cX7_numberOf 203 = .ok (.iadd, 1) := by decide +kernel
theorem dX7_numberOf_204 : decode cX7_numberOf 204 = .ok (.iload_n 3, 1) := by decide +kernel
theorem dX7_numberOf_205 : decode cX7_numberOf 205 = .ok (.iastore, 1) := by decide +kernel
theorem dX7_numberOf_206 : decode cX7_numberOf 206 = .ok (.aload_n 0, 1) := by decide +kernel
theorem dX7_numberOf_207 : decode cX7_numberOf 207 = .ok (.getfield 9, 3) := by decide +kernel
theorem dX7_numberOf_210 : decode cX7_numberOf 210 = .ok (.iload 8, 2) := by decide +kernel
theorem dX7_numberOf_212 : decode cX7_numberOf 212 = .ok (.iconst 3, 1) := by decide +kernel
theorem dX7_numberOf_213 : decode cX7_numberOf 213 = .ok (.iadd, 1) := by decide +kernel
theorem dX7_numberOf_214 : decode cX7_numberOf 214 = .ok (.iload 4, 2) := by decide +kernel
theorem dX7_numberOf_216 : decode cX7_numberOf 216 = .ok (.iastore, 1) := by decide +kernel
theorem dX7_numberOf_217 : decode cX7_numberOf 217 = .ok (.aload_n 0, 1) := by decide +kernel
theorem dX7_numberOf_218 : decode cX7_numberOf 218 = .ok (.getfield 9, 3) := by decide +kernel
theorem dX7_numberOf_221 : decode cX7_numberOf 221 = .ok (.iload 8, 2) := by decide +kernel
theorem dX7_numberOf_223 : decode cX7_numberOf 223 = .ok (.iconst 4, 1) := by decide +kernel
theorem dX7_numberOf_224 : decode cX7_numberOf 224 = .ok (.iadd, 1) := by decide +kernel
theorem dX7_numberOf_225 : decode cX7_numberOf 225 = .ok (.aload_n 0, 1) := by decide +kernel
theorem dX7_numberOf_226 : decode cX7_numberOf 226 = .ok (.getfield 13, 3) := by decide +kernel
theorem dX7_numberOf_229 : decode cX7_numberOf 229 = .ok (.iload 6, 2) := by decide +kernel
theorem dX7_numberOf_231 : decode cX7_numberOf 231 = .ok (.iaload, 1) := by decide +kernel
theorem dX7_numberOf_232 : decode cX7_numberOf 232 = .ok (.iastore, 1) := by decide +kernel
theorem dX7_numberOf_233 : decode cX7_numberOf 233 = .ok (.aload_n 0, 1) := by decide +kernel
theorem dX7_numberOf_234 : decode cX7_numberOf 234 = .ok (.getfield 13, 3) := by decide +kernel
theorem dX7_numberOf_237 : decode cX7_numberOf 237 = .ok (.iload 6, 2) := by decide +kernel
theorem dX7_numberOf_239 : decode cX7_numberOf 239 = .ok (.aload_n 0, 1) := by decide +kernel
theorem dX7_numberOf_240 : decode cX7_numberOf 240 = .ok (.getfield 22, 3) := by decide +kernel
theorem dX7_numberOf_243 : decode cX7_numberOf 243 = .ok (.iastore, 1) := by decide +kernel
theorem dX7_numberOf_244 : decode cX7_numberOf 244 = .ok (.aload_n 0, 1) := by decide +kernel
theorem dX7_numberOf_245 : decode cX7_numberOf 245 = .ok (.dup, 1) := by decide +kernel
theorem dX7_numberOf_246 : decode cX7_numberOf 246 = .ok (.getfield 22, 3) := by decide +kernel
theorem dX7_numberOf_249 : decode cX7_numberOf 249 = .ok (.iconst 1, 1) := by decide +kernel
theorem dX7_numberOf_250 : decode cX7_numberOf 250 = .ok (.iadd, 1) := by decide +kernel
theorem dX7_numberOf_251 : decode cX7_numberOf 251 = .ok (.putfield 22, 3) := by decide +kernel
theorem dX7_numberOf_254 : decode cX7_numberOf 254 = .ok (.aload_n 0, 1) := by decide +kernel
theorem dX7_numberOf_255 : decode cX7_numberOf 255 = .ok (.getfield 22, 3) := by decide +kernel
theorem dX7_numberOf_258 : decode cX7_numberOf 258 = .ok (.iconst 1, 1) := by decide +kernel
theorem dX7_numberOf_259 : decode cX7_numberOf 259 = .ok (.isub, 1) := by decide +kernel
theorem dX7_numberOf_260 : decode cX7_numberOf 260 = .ok (.ireturn, 1) := by decide +kernel
theorem dX8_init_0 : decode cX8_init 0 = .ok (.aload_n 0, 1) := by decide +kernel
theorem dX8_init_1 : decode cX8_init 1 = .ok (.invokespecial 3, 3) := by decide +kernel
theorem dX8_init_4 : decode cX8_init 4 = .ok (.aload_n 0, 1) := by decide +kernel
theorem dX8_init_5 : decode cX8_init 5 = .ok (.sipush 200, 3) := by decide +kernel
theorem dX8_init_8 : decode cX8_init 8 = .ok (.newarray .int, 2) := by decide +kernel
theorem dX8_init_10 : decode cX8_init 10 = .ok (.putfield 9, 3) := by decide +kernel
theorem dX8_init_13 : decode cX8_init 13 = .ok (.aload_n 0, 1) := by decide +kernel
theorem dX8_init_14 : decode cX8_init 14 = .ok (.bipush 64, 2) := by decide +kernel
theorem dX8_init_16 : decode cX8_init 16 = .ok (.newarray .int, 2) := by decide +kernel
theorem dX8_init_18 : decode cX8_init 18 = .ok (.putfield 15, 3) := by decide +kernel
theorem dX8_init_21 : decode cX8_init 21 = .ok (.aload_n 0, 1) := by decide +kernel
theorem dX8_init_22 : decode cX8_init 22 = .ok (.aload_n 1, 1) := by decide +kernel
theorem dX8_init_23 : decode cX8_init 23 = .ok (.putfield 18, 3) := by decide +kernel
theorem dX8_init_26 : decode cX8_init 26 = .ok (.aload_n 0, 1) := by decide +kernel
theorem dX8_init_27 : decode cX8_init 27 = .ok (.aload_n 2, 1) := by decide +kernel
theorem dX8_init_28 : decode cX8_init 28 = .ok (.putfield 22, 3) := by decide +kernel
theorem dX8_init_31 : decode cX8_init 31 = .ok (.return_, 1) := by decide +kernel
theorem dX8_findFace_0 : decode cX8_findFace 0 = .ok (.aload_n 0, 1) := by decide +kernel
theorem dX8_findFace_1 : decode cX8_findFace 1 = .ok (.aload_n 1, 1) := by decide +kernel
theorem dX8_findFace_2 : decode cX8_findFace 2 = .ok (.aload_n 2, 1) := by decide +kernel
theorem dX8_findFace_3 : decode cX8_findFace 3 = .ok (.invokevirtual 26, 3) := by decide +kernel
theorem dX8_findFace_6 : decode cX8_findFace 6 = .ok (.istore_n 3, 1) := by decide +kernel
theorem dX8_findFace_7 : decode cX8_findFace 7 = .ok (.iload_n 3, 1) := by decide +kernel
theorem dX8_findFace_8 : decode cX8_findFace 8 = .ok (.ifCond .ne 10, 3) := by decide +kernel
theorem dX8_findFace_11 : decode cX8_findFace 11 = .ok (.aload_n 0, 1) := by decide +kernel
theorem dX8_findFace_12 : decode cX8_findFace 12 = .ok (.aload_n 1, 1) := by decide +kernel
theorem dX8_findFace_13 : decode cX8_findFace 13 = .ok (.aload_n 2, 1) := by decide +kernel
theorem dX8_findFace_14 : decode cX8_findFace 14 = .ok (.invokevirtual 30, 3) := by decide +kernel
theorem dX8_findFace_17 : decode cX8_findFace 17 = .ok (.istore_n 3, 1) := by decide +kernel
theorem dX8_findFace_18 : decode cX8_findFace 18 = .ok (.iconst 0, 1) := by decide +kernel
theorem dX8_findFace_19 : decode cX8_findFace 19 = .ok (.istore 4, 2) := by decide +kernel
theorem dX8_findFace_21 : decode cX8_findFace 21 = .ok (.iload 4, 2) := by decide +kernel
theorem dX8_findFace_23 : decode cX8_findFace 23 = .ok (.bipush 10, 2) := by decide +kernel
theorem dX8_findFace_25 : decode cX8_findFace 25 = .ok (.if_icmp .ge 49, 3) := by decide +kernel
theorem dX8_findFace_28 : decode cX8_findFace 28 = .ok (.iload_n 3, 1) := by decide +kernel
theorem dX8_findFace_29 : decode cX8_findFace 29 = .ok (.ifCond .ne 45, 3) := by decide +kernel
theorem dX8_findFace_32 : decode cX8_findFace 32 = .ok (.aload_n 1, 1) := by decide +kernel
theorem dX8_findFace_33 : decode cX8_findFace 33 = .ok (.iload 4, 2) := by decide +kernel
theorem dX8_findFace_35 : decode cX8_findFace 35 = .ok (.invokevirtual 33, 3) := by decide +kernel
theorem dX8_findFace_38 : decode cX8_findFace 38 = .ok (.ifCond .eq 30, 3) := by decide +kernel
theorem dX8_findFace_41 : decode cX8_findFace 41 = .ok (.aload_n 0, 1) := by decide +kernel
theorem dX8_findFace_42 : decode cX8_findFace 42 = .ok (.aload_n 1, 1) := by decide +kernel
theorem dX8_findFace_43 : decode cX8_findFace 43 = .ok (.iload 4, 2) := by decide +kernel
theorem dX8_findFace_45 : decode cX8_findFace 45 = .ok (.aload_n 2, 1) := by decide +kernel
theorem dX8_findFace_46 : decode cX8_findFace 46 = .ok (.invokevirtual 39, 3) := by decide +kernel
theorem dX8_findFace_49 : decode cX8_findFace 49 = .ok (.istore 5, 2) := by decide +kernel
theorem dX8_findFace_51 : decode cX8_findFace 51 = .ok (.iload 5, 2) := by decide +kernel
theorem dX8_findFace_53 : decode cX8_findFace 53 = .ok (.ifCond .ne 7, 3) := by decide +kernel
theorem dX8_findFace_56 : decode cX8_findFace 56 = .ok (.iconst 0, 1) := by decide +kernel
theorem dX8_findFace_57 : decode cX8_findFace 57 = .ok (.goto 10, 3) := by decide +kernel
theorem dX8_findFace_60 : decode cX8_findFace 60 = .ok (.iload 5, 2) := by decide +kernel
theorem dX8_findFace_62 : decode cX8_findFace 62 = .ok (.iload 4, 2) := by decide +kernel
theorem dX8_findFace_64 : decode cX8_findFace 64 = .ok (.invokestatic 43, 3) := by decide +kernel
theorem dX8_findFace_67 : decode cX8_findFace 67 = .ok (.istore_n 3, 1) := by decide +kernel
theorem dX8_findFace_68 : decode cX8_findFace 68 = .ok (.iinc 4 1, 3) := by decide +kernel
theorem dX8_findFace_71 : decode cX8_findFace 71 = .ok (.goto (-50), 3) := by decide +kernel
theorem dX8_findFace_74 : decode cX8_findFace 74 = .ok (.iload_n 3, 1) := by decide +kernel
theorem dX8_findFace_75 : decode cX8_findFace 75 = .ok (.ireturn, 1) := by decide +kernel
theorem dX8_findTypes_0 : decode cX8_findTypes 0 = .ok (.aload_n 1, 1) := by decide +kernel
theorem dX8_findTypes_1 : decode cX8_findTypes 1 = .ok (.invokevirtual 47, 3) := by decide +kernel
theorem dX8_findTypes_4 : decode cX8_findTypes 4 = .ok (.istore_n 3, 1) := by decide +kernel
theorem dX8_findTypes_5 : decode cX8_findTypes 5 = .ok (.aload_n 0, 1) := by decide +kernel
theorem dX8_findTypes_6 : decode cX8_findTypes 6 = .ok (.getfield 22, 3) := by decide +kernel
theorem dX8_findTypes_9 : decode cX8_findTypes 9 = .ok (.invokevirtual 51, 3) := by decide +kernel
theorem dX8_findTypes_12 : decode cX8_findTypes 12 = .ok (.iconst 0, 1) := by decide +kernel
theorem dX8_findTypes_13 : decode cX8_findTypes 13 = .ok (.istore 4, 2) := by decide +kernel
theorem dX8_findTypes_15 : decode cX8_findTypes 15 = .ok (.iload 4, 2) := by decide +kernel
theorem dX8_findTypes_17 : decode cX8_findTypes 17 = .ok (.bipush 6, 2) := by decide +kernel
theorem dX8_findTypes_19 : decode cX8_findTypes 19 = .ok (.if_icmp .ge 76, 3) := by decide +kernel
theorem dX8_findTypes_22 : decode cX8_findTypes 22 = .ok (.aload_n 1, 1) := by decide +kernel
theorem dX8_findTypes_23 : decode cX8_findTypes 23 = .ok (.getfield 56, 3) := by decide +kernel
theorem dX8_findTypes_26 : decode cX8_findTypes 26 = .ok (.iload 4, 2) := by decide +kernel
theorem dX8_findTypes_28 : decode cX8_findTypes 28 = .ok (.iaload, 1) := by decide +kernel
theorem dX8_findTypes_29 : decode cX8_findTypes 29 = .ok (.istore 5, 2) := by decide +kernel
theorem dX8_findTypes_31 : decode cX8_findTypes 31 = .ok (.iload 5, 2) := by decide +kernel
theorem dX8_findTypes_33 : decode cX8_findTypes 33 = .ok (.ifCond .lt 56, 3) := by decide +kernel
theorem dX8_findTypes_36 : decode cX8_findTypes 36 = .ok (.aload_n 0, 1) := by decide +kernel
theorem dX8_findTypes_37 : decode cX8_findTypes 37 = .ok (.getfield 18, 3) := by decide +kernel
theorem dX8_findTypes_40 : decode cX8_findTypes 40 = .ok (.getfield 59, 3) := by decide +kernel
theorem dX8_findTypes_43 : decode cX8_findTypes 43 = .ok (.iload 5, 2) := by decide +kernel
theorem dX8_findTypes_45 : decode cX8_findTypes 45 = .ok (.iaload, 1) := by decide +kernel
theorem dX8_findTypes_46 : decode cX8_findTypes 46 = .ok (.iload_n 3, 1) := by decide +kernel
theorem dX8_findTypes_47 : decode cX8_findTypes 47 = .ok (.iconst (-1), 1) := by decide +kernel
theorem dX8_findTypes_48 : decode cX8_findTypes 48 = .ok (.ixor, 1) := by decide +kernel
theorem dX8_findTypes_49 : decode cX8_findTypes 49 = .ok (.iand, 1) := by decide +kernel
theorem dX8_findTypes_50 : decode cX8_findTypes 50 = .ok (.ifCond .eq 10, 3) := by decide +kernel
theorem dX8_findTypes_53 : decode cX8_findTypes 53 = .ok (.iconst 1, 1) := by decide +kernel
theorem dX8_findTypes_54 : decode cX8_findTypes 54 = .ok (.iload 4, 2) := by decide +kernel
theorem dX8_findTypes_56 : decode cX8_findTypes 56 = .ok (.invokestatic 63, 3) := by decide +kernel
theorem dX8_findTypes_59 : decode cX8_findTypes 59 = .ok (.ireturn, 1) := by decide +kernel
theorem dX8_findTypes_60 : decode cX8_findTypes 60 = .ok (.aload_n 0, 1) := by decide +kernel
theorem dX8_findTypes_61 : decode cX8_findTypes 61 = .ok (.getfield 22, 3) := by decide +kernel
theorem dX8_findTypes_64 : decode cX8_findTypes 64 = .ok (.iload 4, 2) := by decide +kernel
theorem dX8_findTypes_66 : decode cX8_findTypes 66 = .ok (.aload_n 0, 1) := by decide +kernel
theorem dX8_findTypes_67 : decode cX8_findTypes 67 = .ok (.getfield 18, 3) := by decide +kernel
theorem dX8_findTypes_70 : decode cX8_findTypes 70 = .ok (.getfield 66, 3) := by decide +kernel
theorem dX8_findTypes_73 : decode cX8_findTypes 73 = .ok (.iload 5, 2) := by decide +kernel
theorem dX8_findTypes_75 : decode cX8_findTypes 75 = .ok (.aaload, 1) := by decide +kernel
theorem dX8_findTypes_76 : decode cX8_findTypes 76 = .ok (.aload_n 0, 1) := by decide +kernel
theorem dX8_findTypes_77 : decode cX8_findTypes 77 = .ok (.getfield 18, 3) := by decide +kernel
theorem dX8_findTypes_80 : decode cX8_findTypes 80 = .ok (.getfield 70, 3) := by decide +kernel
theorem dX8_findTypes_83 : decode cX8_findTypes 83 = .ok (.iload 5, 2) := by decide +kernel
theorem dX8_findTypes_85 : decode cX8_findTypes 85 = .ok (.iaload, 1) := by decide +kernel
theorem dX8_findTypes_86 : decode cX8_findTypes 86 = .ok (.invokevirtual 73, 3) := by decide +kernel
theorem dX8_findTypes_89 : decode cX8_findTypes 89 = .ok (.iinc 4 1, 3) := by decide +kernel
theorem dX8_findTypes_92 : decode cX8_findTypes 92 = .ok (.goto (-77), 3) := by decide +kernel
theorem dX8_findTypes_95 : decode cX8_findTypes 95 = .ok (.aload_n 0, 1) := by decide +kernel
theorem dX8_findTypes_96 : decode cX8_findTypes 96 = .ok (.getfield 22, 3) := by decide +kernel
theorem dX8_findTypes_99 : decode cX8_findTypes 99 = .ok (.invokevirtual 77, 3) := by decide +kernel
theorem dX8_findTypes_102 : decode cX8_findTypes 102 = .ok (.istore 4, 2) := by decide +kernel
theorem dX8_findTypes_104 : decode cX8_findTypes 104 = .ok (.iconst 0, 1) := by decide +kernel
theorem dX8_findTypes_105 : decode cX8_findTypes 105 = .ok (.istore 5, 2) := by decide +kernel
theorem dX8_findTypes_107 : decode cX8_findTypes 107 = .ok (.iload 5, 2) := by decide +kernel
theorem dX8_findTypes_109 : decode cX8_findTypes 109 = .ok (.bipush 6, 2) := by decide +kernel
theorem dX8_findTypes_111 : decode cX8_findTypes 111 = .ok (.if_icmp .ge 70, 3) := by decide +kernel
theorem dX8_findTypes_114 : decode cX8_findTypes 114 = .ok (.iload 4, 2) := by decide +kernel
theorem dX8_findTypes_116 : decode cX8_findTypes 116 = .ok (.ifCond .ne 65, 3) := by decide +kernel
theorem dX8_findTypes_119 : decode cX8_findTypes 119 = .ok (.aload_n 1, 1) := by decide +kernel
theorem dX8_findTypes_120 : decode cX8_findTypes 120 = .ok (.getfield 56, 3) := by decide +kernel
theorem dX8_findTypes_123 : decode cX8_findTypes 123 = .ok (.iload 5, 2) := by decide +kernel
theorem dX8_findTypes_125 : decode cX8_findTypes 125 = .ok (.iaload, 1) := by decide +kernel
theorem dX8_findTypes_126 : decode cX8_findTypes 126 = .ok (.iconst (-1), 1) := by decide +kernel
theorem dX8_findTypes_127 : decode cX8_findTypes 127 = .ok (.if_icmp .ne 12, 3) := by decide +kernel
theorem dX8_findTypes_130 : decode cX8_findTypes 130 = .ok (.aload_n 2, 1) := by decide +kernel
theorem dX8_findTypes_131 : decode cX8_findTypes 131 = .ok (.iload 5, 2) := by decide +kernel
theorem dX8_findTypes_133 : decode cX8_findTypes 133 = .ok (.invokevirtual 80, 3) := by decide +kernel
theorem dX8_findTypes_136 : decode cX8_findTypes 136 = .ok (.goto 39, 3) := by decide +kernel
theorem dX8_findTypes_139 : decode cX8_findTypes 139 = .ok (.aload_n 1, 1) := by decide +kernel
theorem dX8_findTypes_140 : decode cX8_findTypes 140 = .ok (.getfield 56, 3) := by decide +kernel
theorem dX8_findTypes_143 : decode cX8_findTypes 143 = .ok (.iload 5, 2) := by decide +kernel
theorem dX8_findTypes_145 : decode cX8_findTypes 145 = .ok (.iaload, 1) := by decide +kernel
theorem dX8_findTypes_146 : decode cX8_findTypes 146 = .ok (.ifCond .lt 29, 3) := by decide +kernel
theorem dX8_findTypes_149 : decode cX8_findTypes 149 = .ok (.aload_n 2, 1) := by decide +kernel
theorem dX8_findTypes_150 : decode cX8_findTypes 150 = .ok (.iload 5, 2) := by decide +kernel
theorem dX8_findTypes_152 : decode cX8_findTypes 152 = .ok (.aload_n 0, 1) := by decide +kernel
theorem dX8_findTypes_153 : decode cX8_findTypes 153 = .ok (.getfield 22, 3) := by decide +kernel
theorem dX8_findTypes_156 : decode cX8_findTypes 156 = .ok (.getfield 86, 3) := by decide +kernel
theorem dX8_findTypes_159 : decode cX8_findTypes 159 = .ok (.iload 5, 2) := by decide +kernel
theorem dX8_findTypes_161 : decode cX8_findTypes 161 = .ok (.aaload, 1) := by decide +kernel
theorem dX8_findTypes_162 : decode cX8_findTypes 162 = .ok (.aload_n 0, 1) := by decide +kernel
theorem dX8_findTypes_163 : decode cX8_findTypes 163 = .ok (.getfield 22, 3) := by decide +kernel
theorem dX8_findTypes_166 : decode cX8_findTypes 166 = .ok (.getfield 89, 3) := by decide +kernel
theorem dX8_findTypes_169 : decode cX8_findTypes 169 = .ok (.iload 5, 2) := by decide +kernel
theorem dX8_findTypes_171 : decode cX8_findTypes 171 = .ok (.iaload, 1) := by decide +kernel
theorem dX8_findTypes_172 : decode cX8_findTypes 172 = .ok (.invokevirtual 92, 3) := by decide +kernel
theorem dX8_findTypes_175 : decode cX8_findTypes 175 = .ok (.iinc 5 1, 3) := by decide +kernel
theorem dX8_findTypes_178 : decode cX8_findTypes 178 = .ok (.goto (-71), 3) := by decide +kernel
theorem dX8_findTypes_181 : decode cX8_findTypes 181 = .ok (.iload 4, 2) := by decide +kernel
theorem dX8_findTypes_183 : decode cX8_findTypes 183 = .ok (.ireturn, 1) := by decide +kernel
theorem dX8_findValues_0 : decode cX8_findValues 0 = .ok (.aload_n 1, 1) := by decide +kernel
theorem dX8_findValues_1 : decode cX8_findValues 1 = .ok (.invokevirtual 47, 3) := by decide +kernel
theorem dX8_findValues_4 : decode cX8_findValues 4 = .ok (.istore_n 3, 1) := by decide +kernel
theorem dX8_findValues_5 : decode cX8_findValues 5 = .ok (.iconst 0, 1) := by decide +kernel
theorem dX8_findValues_6 : decode cX8_findValues 6 = .ok (.istore 4, 2) := by decide +kernel
theorem dX8_findValues_8 : decode cX8_findValues 8 = .ok (.iload 4, 2) := by decide +kernel
theorem dX8_findValues_10 : decode cX8_findValues 10 = .ok (.bipush 10, 2) := by decide +kernel
theorem dX8_findValues_12 : decode cX8_findValues 12 = .ok (.if_icmp .ge 191, 3) := by decide +kernel
theorem dX8_findValues_15 : decode cX8_findValues 15 = .ok (.aload_n 1, 1) := by decide +kernel
theorem dX8_findValues_16 : decode cX8_findValues 16 = .ok (.iload 4, 2) := by decide +kernel
theorem dX8_findValues_18 : decode cX8_findValues 18 = .ok (.invokevirtual 95, 3) := by decide +kernel
theorem dX8_findValues_21 : decode cX8_findValues 21 = .ok (.ifCond .eq 176, 3) := by decide +kernel
theorem dX8_findValues_24 : decode cX8_findValues 24 = .ok (.aload_n 1, 1) := by decide +kernel
theorem dX8_findValues_25 : decode cX8_findValues 25 = .ok (.getfield 98, 3) := by decide +kernel
theorem dX8_findValues_28 : decode cX8_findValues 28 = .ok (.iload 4, 2) := by decide +kernel
theorem dX8_findValues_30 : decode cX8_findValues 30 = .ok (.iaload, 1) := by decide +kernel
theorem dX8_findValues_31 : decode cX8_findValues 31 = .ok (.istore 5, 2) := by decide +kernel
theorem dX8_findValues_33 : decode cX8_findValues 33 = .ok (.aload_n 0, 1) := by decide +kernel
theorem dX8_findValues_34 : decode cX8_findValues 34 = .ok (.getfield 18, 3) := by decide +kernel
theorem dX8_findValues_37 : decode cX8_findValues 37 = .ok (.getfield 59, 3) := by decide +kernel
theorem dX8_findValues_40 : decode cX8_findValues 40 = .ok (.iload 5, 2) := by decide +kernel
theorem dX8_findValues_42 : decode cX8_findValues 42 = .ok (.iaload, 1) := by decide +kernel
theorem dX8_findValues_43 : decode cX8_findValues 43 = .ok (.iload_n 3, 1) := by decide +kernel
theorem dX8_findValues_44 : decode cX8_findValues 44 = .ok (.iconst (-1), 1) := by decide +kernel
theorem dX8_findValues_45 : decode cX8_findValues 45 = .ok (.ixor, 1) := by decide +kernel
theorem dX8_findValues_46 : decode cX8_findValues 46 = .ok (.iand, 1) := by decide +kernel
theorem dX8_findValues_47 : decode cX8_findValues 47 = .ok (.ifCond .eq 10, 3) := by decide +kernel
theorem dX8_findValues_50 : decode cX8_findValues 50 = .ok (.iconst 1, 1) := by decide +kernel
theorem dX8_findValues_51 : decode cX8_findValues 51 = .ok (.iload 4, 2) := by decide +kernel
theorem dX8_findValues_53 : decode cX8_findValues 53 = .ok (.invokestatic 43, 3) := by decide +kernel
theorem dX8_findValues_56 : decode cX8_findValues 56 = .ok (.ireturn, 1) := by decide +kernel
theorem dX8_findValues_57 : decode cX8_findValues 57 = .ok (.aload_n 0, 1) := by decide +kernel
theorem dX8_findValues_58 : decode cX8_findValues 58 = .ok (.getfield 22, 3) := by decide +kernel
theorem dX8_findValues_61 : decode cX8_findValues 61 = .ok (.aload_n 0, 1) := by decide +kernel
theorem dX8_findValues_62 : decode cX8_findValues 62 = .ok (.getfield 18, 3) := by decide +kernel
theorem dX8_findValues_65 : decode cX8_findValues 65 = .ok (.getfield 66, 3) := by decide +kernel
theorem dX8_findValues_68 : decode cX8_findValues 68 = .ok (.iload 5, 2) := by decide +kernel
theorem dX8_findValues_70 : decode cX8_findValues 70 = .ok (.aaload, 1) := by decide +kernel
theorem dX8_findValues_71 : decode cX8_findValues 71 = .ok (.aload_n 0, 1) := by decide +kernel
theorem dX8_findValues_72 : decode cX8_findValues 72 = .ok (.getfield 18, 3) := by decide +kernel
theorem dX8_findValues_75 : decode cX8_findValues 75 = .ok (.getfield 70, 3) := by decide +kernel
theorem dX8_findValues_78 : decode cX8_findValues 78 = .ok (.iload 5, 2) := by decide +kernel
theorem dX8_findValues_80 : decode cX8_findValues 80 = .ok (.iaload, 1) := by decide +kernel
theorem dX8_findValues_81 : decode cX8_findValues 81 = .ok (.aload_n 0, 1) := by decide +kernel
theorem dX8_findValues_82 : decode cX8_findValues 82 = .ok (.getfield 9, 3) := by decide +kernel
theorem dX8_findValues_85 : decode cX8_findValues 85 = .ok (.invokevirtual 101, 3) := by decide +kernel
theorem dX8_findValues_88 : decode cX8_findValues 88 = .ok (.istore 6, 2) := by decide +kernel
theorem dX8_findValues_90 : decode cX8_findValues 90 = .ok (.iload 6, 2) := by decide +kernel
theorem dX8_findValues_92 : decode cX8_findValues 92 = .ok (.sipush 200, 3) := by decide +kernel
theorem dX8_findValues_95 : decode cX8_findValues 95 = .ok (.if_icmp .le 11, 3) := by decide +kernel
theorem dX8_findValues_98 : decode cX8_findValues 98 = .ok (.bipush 7, 2) := by decide +kernel
theorem dX8_findValues_100 : decode cX8_findValues 100 = .ok (.iload 4, 2) := by decide +kernel
theorem dX8_findValues_102 : decode cX8_findValues 102 = .ok (.invokestatic 43, 3) := by decide +kernel
theorem dX8_findValues_105 : decode cX8_findValues 105 = .ok (.ireturn, 1) := by decide +kernel
theorem dX8_findValues_106 : decode cX8_findValues 106 = .ok (.aload_n 1, 1) := by decide +kernel
theorem dX8_findValues_107 : decode cX8_findValues 107 = .ok (.getfield 105, 3) := by decide +kernel
theorem dX8_findValues_110 : decode cX8_findValues 110 = .ok (.iload 4, 2) := by decide +kernel
theorem dX8_findValues_112 : decode cX8_findValues 112 = .ok (.iaload, 1) := by decide +kernel
theorem dX8_findValues_113 : decode cX8_findValues 113 = .ok (.istore 7, 2) := by decide +kernel
theorem dX8_findValues_115 : decode cX8_findValues 115 = .ok (.iload 7, 2) := by decide +kernel
theorem dX8_findValues_117 : decode cX8_findValues 117 = .ok (.iconst (-1), 1) := by decide +kernel
theorem dX8_findValues_118 : decode cX8_findValues 118 = .ok (.if_icmp .ne 7, 3) := by decide +kernel
theorem dX8_findValues_121 : decode cX8_findValues 121 = .ok (.iconst 1, 1) := by decide +kernel
theorem dX8_findValues_122 : decode cX8_findValues 122 = .ok (.goto 4, 3) := by decide +kernel
theorem dX8_findValues_125 : decode cX8_findValues 125 = .ok (.iconst 2, 1) := by decide +kernel
theorem dX8_findValues_126 : decode cX8_findValues 126 = .ok (.aload_n 1, 1) := by decide +kernel
theorem dX8_findValues_127 : decode cX8_findValues 127 = .ok (.getfield 108, 3) := by decide +kernel
theorem dX8_findValues_130 : decode cX8_findValues 130 = .ok (.iload 4, 2) := by decide +kernel
theorem dX8_findValues_132 : decode cX8_findValues 132 = .ok (.iaload, 1) := by decide +kernel
theorem dX8_findValues_133 : decode cX8_findValues 133 = .ok (.iconst 4, 1) := by decide +kernel
theorem dX8_findValues_134 : decode cX8_findValues 134 = .ok (.iand, 1) := by decide +kernel
theorem dX8_findValues_135 : decode cX8_findValues 135 = .ok (.ior, 1) := by decide +kernel
theorem dX8_findValues_136 : decode cX8_findValues 136 = .ok (.istore 8, 2) := by decide +kernel
theorem dX8_findValues_138 : decode cX8_findValues 138 = .ok (.aload_n 2, 1) := by decide +kernel
theorem dX8_findValues_139 : decode cX8_findValues 139 = .ok (.iload 4, 2) := by decide +kernel
theorem dX8_findValues_141 : decode cX8_findValues 141 = .ok (.iload 8, 2) := by decide +kernel
theorem dX8_findValues_143 : decode cX8_findValues 143 = .ok (.aload_n 0, 1) := by decide +kernel
theorem dX8_findValues_144 : decode cX8_findValues 144 = .ok (.getfield 9, 3) := by decide +kernel
theorem dX8_findValues_147 : decode cX8_findValues 147 = .ok (.iload 6, 2) := by decide +kernel
theorem dX8_findValues_149 : decode cX8_findValues 149 = .ok (.invokevirtual 111, 3) := by decide +kernel
theorem dX8_findValues_152 : decode cX8_findValues 152 = .ok (.iload 7, 2) := by decide +kernel
theorem dX8_findValues_154 : decode cX8_findValues 154 = .ok (.ifCond .lt 43, 3) := by decide +kernel
theorem dX8_findValues_157 : decode cX8_findValues 157 = .ok (.aload_n 0, 1) := by decide +kernel
theorem dX8_findValues_158 : decode cX8_findValues 158 = .ok (.getfield 18, 3) := by decide +kernel
theorem dX8_findValues_161 : decode cX8_findValues 161 = .ok (.getfield 115, 3) := by decide +kernel
theorem dX8_findValues_164 : decode cX8_findValues 164 = .ok (.iload 7, 2) := by decide +kernel
theorem dX8_findValues_166 : decode cX8_findValues 166 = .ok (.iaload, 1) := by decide +kernel
theorem dX8_findValues_167 : decode cX8_findValues 167 = .ok (.iconst 5, 1) := by decide +kernel
theorem dX8_findValues_168 : decode cX8_findValues 168 = .ok (.if_icmp .ne 29, 3) := by decide +kernel
theorem dX8_findValues_171 : decode cX8_findValues 171 = .ok (.aload_n 1, 1) := by decide +kernel
theorem dX8_findValues_172 : decode cX8_findValues 172 = .ok (.getfield 108, 3) := by decide +kernel
theorem dX8_findValues_175 : decode cX8_findValues 175 = .ok (.iload 4, 2) := by decide +kernel
theorem dX8_findValues_177 : decode cX8_findValues 177 = .ok (.iaload, 1) := by decide +kernel
theorem dX8_findValues_178 : decode cX8_findValues 178 = .ok (.ifCond .ne 19, 3) := by decide +kernel
theorem dX8_findValues_181 : decode cX8_findValues 181 = .ok (.aload_n 2, 1) := by decide +kernel
theorem dX8_findValues_182 : decode cX8_findValues 182 = .ok (.iload 4, 2) := by decide +kernel
theorem dX8_findValues_184 : decode cX8_findValues 184 = .ok (.aload_n 0, 1) := by decide +kernel
theorem dX8_findValues_185 : decode cX8_findValues 185 = .ok (.getfield 18, 3) := by decide +kernel
theorem dX8_findValues_188 : decode cX8_findValues 188 = .ok (.getfield 118, 3) := by decide +kernel
theorem dX8_findValues_191 : decode cX8_findValues 191 = .ok (.iload 7, 2) := by decide +kernel
theorem dX8_findValues_193 : decode cX8_findValues 193 = .ok (.iaload, 1) := by decide +kernel
theorem dX8_findValues_194 : decode cX8_findValues 194 = .ok (.invokevirtual 121, 3) := by decide +kernel
theorem dX8_findValues_197 : decode cX8_findValues 197 = .ok (.iinc 4 1, 3) := by decide +kernel
theorem dX8_findValues_200 : decode cX8_findValues 200 = .ok (.goto (-192), 3) := by decide +kernel
theorem dX8_findValues_203 : decode cX8_findValues 203 = .ok (.iconst 0, 1) := by decide +kernel
theorem dX8_findValues_204 : decode cX8_findValues 204 = .ok (.ireturn, 1) := by decide +kernel
theorem dX8_checkDefinition_0 : decode cX8_checkDefinition 0 = .ok (.aload_n 1, 1) := by decide +kernel
theorem dX8_checkDefinition_1 : decode cX8_checkDefinition 1 = .ok (.getfield 105, 3) := by decide +kernel
theorem dX8_checkDefinition_4 : decode cX8_checkDefinition 4 = .ok (.iload_n 2, 1) := by decide +kernel
theorem dX8_checkDefinition_5 : decode cX8_checkDefinition 5 = .ok (.iaload, 1) := by decide +kernel
theorem dX8_checkDefinition_6 : decode cX8_checkDefinition 6 = .ok (.istore 4, 2) := by decide +kernel
theorem dX8_checkDefinition_8 : decode cX8_checkDefinition 8 = .ok (.aload_n 0, 1) := by decide +kernel
theorem dX8_checkDefinition_9 : decode cX8_checkDefinition 9 = .ok (.iconst 0, 1) := by decide +kernel
theorem dX8_checkDefinition_10 : decode cX8_checkDefinition 10 = .ok (.putfield 125, 3) := by decide +kernel
theorem dX8_checkDefinition_13 : decode cX8_checkDefinition 13 = .ok (.aload_n 0, 1) := by decide +kernel
theorem dX8_checkDefinition_14 : decode cX8_checkDefinition 14 = .ok (.iload 4, 2) := by decide +kernel
theorem dX8_checkDefinition_16 : decode cX8_checkDefinition 16 = .ok (.aload_n 3, 1) := by decide +kernel
theorem dX8_checkDefinition_17 : decode cX8_checkDefinition 17 = .ok (.iconst 0, 1) := by decide +kernel
theorem dX8_checkDefinition_18 : decode cX8_checkDefinition 18 = .ok (.invokevirtual 129, 3) := by decide +kernel
theorem dX8_checkDefinition_21 : decode cX8_checkDefinition 21 = .ok (.istore 5, 2) := by decide +kernel
theorem dX8_checkDefinition_23 : decode cX8_checkDefinition 23 = .ok (.iload 5, 2) := by decide +kernel
theorem dX8_checkDefinition_25 : decode cX8_checkDefinition 25 = .ok (.ifCond .ne 38, 3) := by decide +kernel
theorem dX8_checkDefinition_28 : decode cX8_checkDefinition 28 = .ok (.aload_n 0, 1) := by decide +kernel
theorem dX8_checkDefinition_29 : decode cX8_checkDefinition 29 = .ok (.getfield 15, 3) := by decide +kernel
theorem dX8_checkDefinition_32 : decode cX8_checkDefinition 32 = .ok (.aload_n 0, 1) := by decide +kernel
theorem dX8_checkDefinition_33 : decode cX8_checkDefinition 33 = .ok (.getfield 125, 3) := by decide +kernel
theorem dX8_checkDefinition_36 : decode cX8_checkDefinition 36 = .ok (.aload_n 3, 1) := by decide +kernel
theorem dX8_checkDefinition_37 : decode cX8_checkDefinition 37 = .ok (.getfield 133, 3) := by decide +kernel
theorem dX8_checkDefinition_40 : decode cX8_checkDefinition 40 = .ok (.bipush 6, 2) := by decide +kernel
theorem dX8_checkDefinition_42 : decode cX8_checkDefinition 42 = .ok (.iload_n 2, 1) := by decide +kernel
theorem dX8_checkDefinition_43 : decode cX8_checkDefinition 43 = .ok (.iadd, 1) := by decide +kernel
theorem dX8_checkDefinition_44 : decode cX8_checkDefinition 44 = .ok (.aaload, 1) := by decide +kernel
theorem dX8_checkDefinition_45 : decode cX8_checkDefinition 45 = .ok (.aload_n 3, 1) := by decide +kernel
theorem dX8_checkDefinition_46 : decode cX8_checkDefinition 46 = .ok (.getfield 134, 3) := by decide +kernel
theorem dX8_checkDefinition_49 : decode cX8_checkDefinition 49 = .ok (.bipush 6, 2) := by decide +kernel
theorem dX8_checkDefinition_51 : decode cX8_checkDefinition 51 = .ok (.iload_n 2, 1) := by decide +kernel
theorem dX8_checkDefinition_52 : decode cX8_checkDefinition 52 = .ok (.iadd, 1) := by decide +kernel
theorem dX8_checkDefinition_53 : decode cX8_checkDefinition 53 = .ok (.iaload, 1) := by decide +kernel
theorem dX8_checkDefinition_54 : decode cX8_checkDefinition 54 = .ok (.invokestatic 135, 3) := by decide +kernel
theorem dX8_checkDefinition_57 : decode cX8_checkDefinition 57 = .ok (.ifCond .ne 6, 3) := by decide +kernel
theorem dX8_checkDefinition_60 : decode cX8_checkDefinition 60 = .ok (.iconst 2, 1) := by decide +kernel
theorem dX8_checkDefinition_61 : decode cX8_checkDefinition 61 = .ok (.istore 5, 2) := by decide +kernel
theorem dX8_checkDefinition_63 : decode cX8_checkDefinition 63 = .ok (.iload 5, 2) := by decide +kernel
theorem dX8_checkDefinition_65 : decode cX8_checkDefinition 65 = .ok (.ifCond .ne 33, 3) := by decide +kernel
theorem dX8_checkDefinition_68 : decode cX8_checkDefinition 68 = .ok (.aload_n 1, 1) := by decide +kernel
theorem dX8_checkDefinition_69 : decode cX8_checkDefinition 69 = .ok (.iload_n 2, 1) := by decide +kernel
theorem dX8_checkDefinition_70 : decode cX8_checkDefinition 70 = .ok (.invokevirtual 139, 3) := by decide +kernel
theorem dX8_checkDefinition_73 : decode cX8_checkDefinition 73 = .ok (.ifCond .ne 25, 3) := by decide +kernel
theorem dX8_checkDefinition_76 : decode cX8_checkDefinition 76 = .ok (.aload_n 0, 1) := by decide +kernel
theorem dX8_checkDefinition_77 : decode cX8_checkDefinition 77 = .ok (.getfield 18, 3) := by decide +kernel
theorem dX8_checkDefinition_80 : decode cX8_checkDefinition 80 = .ok (.getfield 142, 3) := by decide +kernel
theorem dX8_checkDefinition_83 : decode cX8_checkDefinition 83 = .ok (.iload 4, 2) := by decide +kernel
theorem dX8_checkDefinition_85 : decode cX8_checkDefinition 85 = .ok (.iaload, 1) := by decide +kernel
theorem dX8_checkDefinition_86 : decode cX8_checkDefinition 86 = .ok (.aload_n 1, 1) := by decide +kernel
theorem dX8_checkDefinition_87 : decode cX8_checkDefinition 87 = .ok (.invokevirtual 145, 3) := by decide +kernel
theorem dX8_checkDefinition_90 : decode cX8_checkDefinition 90 = .ok (.iand, 1) := by decide +kernel
theorem dX8_checkDefinition_91 : decode cX8_checkDefinition 91 = .ok (.ifCond .eq 7, 3) := by decide +kernel
theorem dX8_checkDefinition_94 : decode cX8_checkDefinition 94 = .ok (.bipush 6, 2) := by decide +kernel
theorem dX8_checkDefinition_96 : decode cX8_checkDefinition 96 = .ok (.istore 5, 2) := by decide +kernel
theorem dX8_checkDefinition_98 : decode cX8_checkDefinition 98 = .ok (.iload 5, 2) := by decide +kernel
theorem dX8_checkDefinition_100 : decode cX8_checkDefinition 100 = .ok (.ireturn, 1) := by decide +kernel
theorem dX8_check_0 : decode cX8_check 0 = .ok (.iload_n 1, 1) := by decide +kernel
theorem dX8_check_1 : decode cX8_check 1 = .ok (.ifCond .lt 9, 3) := by decide +kernel
theorem dX8_check_4 : decode cX8_check 4 = .ok (.iload_n 3, 1) := by decide +kernel
theorem dX8_check_5 : decode cX8_check 5 = .ok (.bipush 12, 2) := by decide +kernel
theorem dX8_check_7 : decode cX8_check 7 = .ok (.if_icmp .le 5, 3) := by decide +kernel
theorem dX8_check_10 : decode cX8_check 10 = .ok (.iconst 2, 1) := by decide +kernel
theorem dX8_check_11 : decode cX8_check 11 = .ok (.ireturn, 1) := by decide +kernel
theorem dX8_check_12 : decode cX8_check 12 = .ok (.aload_n 0, 1) := by decide +kernel
theorem dX8_check_13 : decode cX8_check 13 = .ok (.getfield 18, 3) := by decide +kernel
