theorem dX12_tellsFace_152 : decode cX12_tellsFace 152 = .ok (.iload_n 1, 1) := by decide +kernel
theorem dX12_tellsFace_153 : decode cX12_tellsFace 153 = .ok (.imul, 1) := by decide +kernel
theorem dX12_tellsFace_154 : decode cX12_tellsFace 154 = .ok (.iload_n 3, 1) := by decide +kernel
theorem dX12_tellsFace_155 : decode cX12_tellsFace 155 = .ok (.iadd, 1) := by decide +kernel
theorem dX12_tellsFace_156 : decode cX12_tellsFace 156 = .ok (.iaload, 1) := by decide +kernel
theorem dX12_tellsFace_157 : decode cX12_tellsFace 157 = .ok (.invokevirtual 610, 3) := by decide +kernel
theorem dX12_tellsFace_160 : decode cX12_tellsFace 160 = .ok (.iinc 3 1, 3) := by decide +kernel
theorem dX12_tellsFace_163 : decode cX12_tellsFace 163 = .ok (.goto (-93), 3) := by decide +kernel
theorem dX12_tellsFace_166 : decode cX12_tellsFace 166 = .ok (.return_, 1) := by decide +kernel
theorem dX12_valuesOf_0 : decode cX12_valuesOf 0 = .ok (.iconst 0, 1) := by decide +kernel
theorem dX12_valuesOf_1 : decode cX12_valuesOf 1 = .ok (.istore_n 2, 1) := by decide +kernel
theorem dX12_valuesOf_2 : decode cX12_valuesOf 2 = .ok (.iconst 0, 1) := by decide +kernel
theorem dX12_valuesOf_3 : decode cX12_valuesOf 3 = .ok (.istore_n 3, 1) := by decide +kernel
theorem dX12_valuesOf_4 : decode cX12_valuesOf 4 = .ok (.iload_n 3, 1) := by decide +kernel
theorem dX12_valuesOf_5 : decode cX12_valuesOf 5 = .ok (.bipush 10, 2) := by decide +kernel
theorem dX12_valuesOf_7 : decode cX12_valuesOf 7 = .ok (.if_icmp .ge 38, 3) := by decide +kernel
theorem dX12_valuesOf_10 : decode cX12_valuesOf 10 = .ok (.iload_n 2, 1) := by decide +kernel
theorem dX12_valuesOf_11 : decode cX12_valuesOf 11 = .ok (.aload_n 0, 1) := by decide +kernel
theorem dX12_valuesOf_12 : decode cX12_valuesOf 12 = .ok (.getfield 139, 3) := by decide +kernel
theorem dX12_valuesOf_15 : decode cX12_valuesOf 15 = .ok (.iload_n 1, 1) := by decide +kernel
theorem dX12_valuesOf_16 : decode cX12_valuesOf 16 = .ok (.iaload, 1) := by decide +kernel
theorem dX12_valuesOf_17 : decode cX12_valuesOf 17 = .ok (.ifCond .ne 19, 3) := by decide +kernel
theorem dX12_valuesOf_20 : decode cX12_valuesOf 20 = .ok (.aload_n 0, 1) := by decide +kernel
theorem dX12_valuesOf_21 : decode cX12_valuesOf 21 = .ok (.iload_n 1, 1) := by decide +kernel
theorem dX12_valuesOf_22 : decode cX12_valuesOf 22 = .ok (.iload_n 3, 1) := by decide +kernel
theorem dX12_valuesOf_23 : decode cX12_valuesOf 23 = .ok (.invokevirtual 388, 3) := by decide +kernel
theorem dX12_valuesOf_26 : decode cX12_valuesOf 26 = .ok (.iconst (-1), 1) := by decide +kernel
theorem dX12_valuesOf_27 : decode cX12_valuesOf 27 = .ok (.if_icmp .eq 9, 3) := by decide +kernel
theorem dX12_valuesOf_30 : decode cX12_valuesOf 30 = .ok (.iconst 1, 1) := by decide +kernel
theorem dX12_valuesOf_31 : decode cX12_valuesOf 31 = .ok (.iload_n 3, 1) := by decide +kernel
theorem dX12_valuesOf_32 : decode cX12_valuesOf 32 = .ok (.ishl, 1) := by decide +kernel
theorem dX12_valuesOf_33 : decode cX12_valuesOf 33 = .ok (.goto 4, 3) := by decide +kernel
theorem dX12_valuesOf_36 : decode cX12_valuesOf 36 = .ok (.iconst 0, 1) := by decide +kernel
theorem dX12_valuesOf_37 : decode cX12_valuesOf 37 = .ok (.ior, 1) := by decide +kernel
theorem dX12_valuesOf_38 : decode cX12_valuesOf 38 = .ok (.istore_n 2, 1) := by decide +kernel
theorem dX12_valuesOf_39 : decode cX12_valuesOf 39 = .ok (.iinc 3 1, 3) := by decide +kernel
theorem dX12_valuesOf_42 : decode cX12_valuesOf 42 = .ok (.goto (-38), 3) := by decide +kernel
theorem dX12_valuesOf_45 : decode cX12_valuesOf 45 = .ok (.iload_n 2, 1) := by decide +kernel
theorem dX12_valuesOf_46 : decode cX12_valuesOf 46 = .ok (.ireturn, 1) := by decide +kernel
theorem dX12_sees_0 : decode cX12_sees 0 = .ok (.aload_n 0, 1) := by decide +kernel
theorem dX12_sees_1 : decode cX12_sees 1 = .ok (.iconst 0, 1) := by decide +kernel
theorem dX12_sees_2 : decode cX12_sees 2 = .ok (.putfield 607, 3) := by decide +kernel
theorem dX12_sees_5 : decode cX12_sees 5 = .ok (.aload_n 0, 1) := by decide +kernel
theorem dX12_sees_6 : decode cX12_sees 6 = .ok (.getfield 55, 3) := by decide +kernel
theorem dX12_sees_9 : decode cX12_sees 9 = .ok (.iload_n 1, 1) := by decide +kernel
theorem dX12_sees_10 : decode cX12_sees 10 = .ok (.iaload, 1) := by decide +kernel
theorem dX12_sees_11 : decode cX12_sees 11 = .ok (.istore_n 2, 1) := by decide +kernel
theorem dX12_sees_12 : decode cX12_sees 12 = .ok (.iload_n 2, 1) := by decide +kernel
theorem dX12_sees_13 : decode cX12_sees 13 = .ok (.ifCond .ne 13, 3) := by decide +kernel
theorem dX12_sees_16 : decode cX12_sees 16 = .ok (.aload_n 0, 1) := by decide +kernel
theorem dX12_sees_17 : decode cX12_sees 17 = .ok (.aload_n 0, 1) := by decide +kernel
theorem dX12_sees_18 : decode cX12_sees 18 = .ok (.iload_n 1, 1) := by decide +kernel
theorem dX12_sees_19 : decode cX12_sees 19 = .ok (.invokevirtual 440, 3) := by decide +kernel
theorem dX12_sees_22 : decode cX12_sees 22 = .ok (.invokevirtual 622, 3) := by decide +kernel
theorem dX12_sees_25 : decode cX12_sees 25 = .ok (.return_, 1) := by decide +kernel
theorem dX12_sees_26 : decode cX12_sees 26 = .ok (.aload_n 0, 1) := by decide +kernel
theorem dX12_sees_27 : decode cX12_sees 27 = .ok (.getfield 58, 3) := by decide +kernel
theorem dX12_sees_30 : decode cX12_sees 30 = .ok (.iload_n 1, 1) := by decide +kernel
theorem dX12_sees_31 : decode cX12_sees 31 = .ok (.iaload, 1) := by decide +kernel
theorem dX12_sees_32 : decode cX12_sees 32 = .ok (.istore_n 3, 1) := by decide +kernel
theorem dX12_sees_33 : decode cX12_sees 33 = .ok (.aload_n 0, 1) := by decide +kernel
theorem dX12_sees_34 : decode cX12_sees 34 = .ok (.getfield 61, 3) := by decide +kernel
theorem dX12_sees_37 : decode cX12_sees 37 = .ok (.iload_n 1, 1) := by decide +kernel
theorem dX12_sees_38 : decode cX12_sees 38 = .ok (.iaload, 1) := by decide +kernel
theorem dX12_sees_39 : decode cX12_sees 39 = .ok (.istore 4, 2) := by decide +kernel
theorem dX12_sees_41 : decode cX12_sees 41 = .ok (.sipush 1023, 3) := by decide +kernel
theorem dX12_sees_44 : decode cX12_sees 44 = .ok (.istore 5, 2) := by decide +kernel
theorem dX12_sees_46 : decode cX12_sees 46 = .ok (.aload_n 0, 1) := by decide +kernel
theorem dX12_sees_47 : decode cX12_sees 47 = .ok (.iload_n 3, 1) := by decide +kernel
theorem dX12_sees_48 : decode cX12_sees 48 = .ok (.iload_n 2, 1) := by decide +kernel
theorem dX12_sees_49 : decode cX12_sees 49 = .ok (.iconst 2, 1) := by decide +kernel
theorem dX12_sees_50 : decode cX12_sees 50 = .ok (.if_icmp .ne 12, 3) := by decide +kernel
theorem dX12_sees_53 : decode cX12_sees 53 = .ok (.aload_n 0, 1) := by decide +kernel
theorem dX12_sees_54 : decode cX12_sees 54 = .ok (.iload 4, 2) := by decide +kernel
theorem dX12_sees_56 : decode cX12_sees 56 = .ok (.invokevirtual 625, 3) := by decide +kernel
theorem dX12_sees_59 : decode cX12_sees 59 = .ok (.goto 5, 3) := by decide +kernel
theorem dX12_sees_62 : decode cX12_sees 62 = .ok (.iload 5, 2) := by decide +kernel
theorem dX12_sees_64 : decode cX12_sees 64 = .ok (.invokevirtual 628, 3) := by decide +kernel
theorem dX12_sees_67 : decode cX12_sees 67 = .ok (.iload_n 2, 1) := by decide +kernel
theorem dX12_sees_68 : decode cX12_sees 68 = .ok (.iconst 5, 1) := by decide +kernel
theorem dX12_sees_69 : decode cX12_sees 69 = .ok (.if_icmp .ge 24, 3) := by decide +kernel
theorem dX12_sees_72 : decode cX12_sees 72 = .ok (.aload_n 0, 1) := by decide +kernel
theorem dX12_sees_73 : decode cX12_sees 73 = .ok (.iload 4, 2) := by decide +kernel
theorem dX12_sees_75 : decode cX12_sees 75 = .ok (.iload_n 2, 1) := by decide +kernel
theorem dX12_sees_76 : decode cX12_sees 76 = .ok (.iconst 3, 1) := by decide +kernel
theorem dX12_sees_77 : decode cX12_sees 77 = .ok (.if_icmp .ne 11, 3) := by decide +kernel
theorem dX12_sees_80 : decode cX12_sees 80 = .ok (.aload_n 0, 1) := by decide +kernel
theorem dX12_sees_81 : decode cX12_sees 81 = .ok (.iload_n 3, 1) := by decide +kernel
theorem dX12_sees_82 : decode cX12_sees 82 = .ok (.invokevirtual 625, 3) := by decide +kernel
theorem dX12_sees_85 : decode cX12_sees 85 = .ok (.goto 5, 3) := by decide +kernel
theorem dX12_sees_88 : decode cX12_sees 88 = .ok (.iload 5, 2) := by decide +kernel
theorem dX12_sees_90 : decode cX12_sees 90 = .ok (.invokevirtual 628, 3) := by decide +kernel
theorem dX12_sees_93 : decode cX12_sees 93 = .ok (.iload_n 2, 1) := by decide +kernel
theorem dX12_sees_94 : decode cX12_sees 94 = .ok (.iconst 4, 1) := by decide +kernel
theorem dX12_sees_95 : decode cX12_sees 95 = .ok (.if_icmp .ne 15, 3) := by decide +kernel
theorem dX12_sees_98 : decode cX12_sees 98 = .ok (.aload_n 0, 1) := by decide +kernel
theorem dX12_sees_99 : decode cX12_sees 99 = .ok (.aload_n 0, 1) := by decide +kernel
theorem dX12_sees_100 : decode cX12_sees 100 = .ok (.getfield 64, 3) := by decide +kernel
theorem dX12_sees_103 : decode cX12_sees 103 = .ok (.iload_n 1, 1) := by decide +kernel
theorem dX12_sees_104 : decode cX12_sees 104 = .ok (.iaload, 1) := by decide +kernel
theorem dX12_sees_105 : decode cX12_sees 105 = .ok (.iload 5, 2) := by decide +kernel
theorem dX12_sees_107 : decode cX12_sees 107 = .ok (.invokevirtual 628, 3) := by decide +kernel
theorem dX12_sees_110 : decode cX12_sees 110 = .ok (.iload_n 2, 1) := by decide +kernel
theorem dX12_sees_111 : decode cX12_sees 111 = .ok (.iconst 2, 1) := by decide +kernel
theorem dX12_sees_112 : decode cX12_sees 112 = .ok (.if_icmp .eq 8, 3) := by decide +kernel
theorem dX12_sees_115 : decode cX12_sees 115 = .ok (.iload_n 2, 1) := by decide +kernel
theorem dX12_sees_116 : decode cX12_sees 116 = .ok (.iconst 3, 1) := by decide +kernel
theorem dX12_sees_117 : decode cX12_sees 117 = .ok (.if_icmp .ne 24, 3) := by decide +kernel
theorem dX12_sees_120 : decode cX12_sees 120 = .ok (.aload_n 0, 1) := by decide +kernel
theorem dX12_sees_121 : decode cX12_sees 121 = .ok (.aload_n 0, 1) := by decide +kernel
theorem dX12_sees_122 : decode cX12_sees 122 = .ok (.getfield 142, 3) := by decide +kernel
theorem dX12_sees_125 : decode cX12_sees 125 = .ok (.iload_n 3, 1) := by decide +kernel
theorem dX12_sees_126 : decode cX12_sees 126 = .ok (.iaload, 1) := by decide +kernel
theorem dX12_sees_127 : decode cX12_sees 127 = .ok (.invokevirtual 610, 3) := by decide +kernel
theorem dX12_sees_130 : decode cX12_sees 130 = .ok (.aload_n 0, 1) := by decide +kernel
theorem dX12_sees_131 : decode cX12_sees 131 = .ok (.aload_n 0, 1) := by decide +kernel
theorem dX12_sees_132 : decode cX12_sees 132 = .ok (.getfield 142, 3) := by decide +kernel
theorem dX12_sees_135 : decode cX12_sees 135 = .ok (.iload 4, 2) := by decide +kernel
theorem dX12_sees_137 : decode cX12_sees 137 = .ok (.iaload, 1) := by decide +kernel
theorem dX12_sees_138 : decode cX12_sees 138 = .ok (.invokevirtual 610, 3) := by decide +kernel
theorem dX12_sees_141 : decode cX12_sees 141 = .ok (.return_, 1) := by decide +kernel
theorem dX12_isAs_0 : decode cX12_isAs 0 = .ok (.aload_n 0, 1) := by decide +kernel
theorem dX12_isAs_1 : decode cX12_isAs 1 = .ok (.getfield 607, 3) := by decide +kernel
theorem dX12_isAs_4 : decode cX12_isAs 4 = .ok (.iload_n 3, 1) := by decide +kernel
theorem dX12_isAs_5 : decode cX12_isAs 5 = .ok (.if_icmp .ne 7, 3) := by decide +kernel
theorem dX12_isAs_8 : decode cX12_isAs 8 = .ok (.iconst 1, 1) := by decide +kernel
theorem dX12_isAs_9 : decode cX12_isAs 9 = .ok (.goto 4, 3) := by decide +kernel
theorem dX12_isAs_12 : decode cX12_isAs 12 = .ok (.iconst 0, 1) := by decide +kernel
theorem dX12_isAs_13 : decode cX12_isAs 13 = .ok (.istore 4, 2) := by decide +kernel
theorem dX12_isAs_15 : decode cX12_isAs 15 = .ok (.iconst 0, 1) := by decide +kernel
theorem dX12_isAs_16 : decode cX12_isAs 16 = .ok (.istore 5, 2) := by decide +kernel
theorem dX12_isAs_18 : decode cX12_isAs 18 = .ok (.iload 5, 2) := by decide +kernel
theorem dX12_isAs_20 : decode cX12_isAs 20 = .ok (.iload_n 3, 1) := by decide +kernel
theorem dX12_isAs_21 : decode cX12_isAs 21 = .ok (.if_icmp .ge 37, 3) := by decide +kernel
theorem dX12_isAs_24 : decode cX12_isAs 24 = .ok (.iload 4, 2) := by decide +kernel
theorem dX12_isAs_26 : decode cX12_isAs 26 = .ok (.ifCond .eq 32, 3) := by decide +kernel
theorem dX12_isAs_29 : decode cX12_isAs 29 = .ok (.aload_n 1, 1) := by decide +kernel
theorem dX12_isAs_30 : decode cX12_isAs 30 = .ok (.iload_n 2, 1) := by decide +kernel
theorem dX12_isAs_31 : decode cX12_isAs 31 = .ok (.iload 5, 2) := by decide +kernel
theorem dX12_isAs_33 : decode cX12_isAs 33 = .ok (.iadd, 1) := by decide +kernel
theorem dX12_isAs_34 : decode cX12_isAs 34 = .ok (.iaload, 1) := by decide +kernel
theorem dX12_isAs_35 : decode cX12_isAs 35 = .ok (.aload_n 0, 1) := by decide +kernel
theorem dX12_isAs_36 : decode cX12_isAs 36 = .ok (.getfield 251, 3) := by decide +kernel
theorem dX12_isAs_39 : decode cX12_isAs 39 = .ok (.iload 5, 2) := by decide +kernel
theorem dX12_isAs_41 : decode cX12_isAs 41 = .ok (.iaload, 1) := by decide +kernel
theorem dX12_isAs_42 : decode cX12_isAs 42 = .ok (.if_icmp .ne 7, 3) := by decide +kernel
theorem dX12_isAs_45 : decode cX12_isAs 45 = .ok (.iconst 1, 1) := by decide +kernel
theorem dX12_isAs_46 : decode cX12_isAs 46 = .ok (.goto 4, 3) := by decide +kernel
theorem dX12_isAs_49 : decode cX12_isAs 49 = .ok (.iconst 0, 1) := by decide +kernel
theorem dX12_isAs_50 : decode cX12_isAs 50 = .ok (.istore 4, 2) := by decide +kernel
theorem dX12_isAs_52 : decode cX12_isAs 52 = .ok (.iinc 5 1, 3) := by decide +kernel
theorem dX12_isAs_55 : decode cX12_isAs 55 = .ok (.goto (-37), 3) := by decide +kernel
theorem dX12_isAs_58 : decode cX12_isAs 58 = .ok (.iload 4, 2) := by decide +kernel
theorem dX12_isAs_60 : decode cX12_isAs 60 = .ok (.ireturn, 1) := by decide +kernel
theorem dX12_compiles_0 : decode cX12_compiles 0 = .ok (.aload_n 0, 1) := by decide +kernel
theorem dX12_compiles_1 : decode cX12_compiles 1 = .ok (.iload_n 1, 1) := by decide +kernel
theorem dX12_compiles_2 : decode cX12_compiles 2 = .ok (.invokevirtual 631, 3) := by decide +kernel
theorem dX12_compiles_5 : decode cX12_compiles 5 = .ok (.aload_n 0, 1) := by decide +kernel
theorem dX12_compiles_6 : decode cX12_compiles 6 = .ok (.getfield 268, 3) := by decide +kernel
theorem dX12_compiles_9 : decode cX12_compiles 9 = .ok (.iload_n 1, 1) := by decide +kernel
theorem dX12_compiles_10 : decode cX12_compiles 10 = .ok (.iaload, 1) := by decide +kernel
theorem dX12_compiles_11 : decode cX12_compiles 11 = .ok (.ifCond .le 27, 3) := by decide +kernel
theorem dX12_compiles_14 : decode cX12_compiles 14 = .ok (.aload_n 0, 1) := by decide +kernel
theorem dX12_compiles_15 : decode cX12_compiles 15 = .ok (.aload_n 0, 1) := by decide +kernel
theorem dX12_compiles_16 : decode cX12_compiles 16 = .ok (.getfield 255, 3) := by decide +kernel
theorem dX12_compiles_19 : decode cX12_compiles 19 = .ok (.sipush 9900, 3) := by decide +kernel
theorem dX12_compiles_22 : decode cX12_compiles 22 = .ok (.iload_n 1, 1) := by decide +kernel
theorem dX12_compiles_23 : decode cX12_compiles 23 = .ok (.imul, 1) := by decide +kernel
theorem dX12_compiles_24 : decode cX12_compiles 24 = .ok (.aload_n 0, 1) := by decide +kernel
theorem dX12_compiles_25 : decode cX12_compiles 25 = .ok (.getfield 258, 3) := by decide +kernel
theorem dX12_compiles_28 : decode cX12_compiles 28 = .ok (.iload_n 1, 1) := by decide +kernel
theorem dX12_compiles_29 : decode cX12_compiles 29 = .ok (.iaload, 1) := by decide +kernel
theorem dX12_compiles_30 : decode cX12_compiles 30 = .ok (.invokevirtual 634, 3) := by decide +kernel
theorem dX12_compiles_33 : decode cX12_compiles 33 = .ok (.ifCond .eq 5, 3) := by decide +kernel
theorem dX12_compiles_36 : decode cX12_compiles 36 = .ok (.iconst 0, 1) := by decide +kernel
theorem dX12_compiles_37 : decode cX12_compiles 37 = .ok (.ireturn, 1) := by decide +kernel
theorem dX12_compiles_38 : decode cX12_compiles 38 = .ok (.iconst 0, 1) := by decide +kernel
theorem dX12_compiles_39 : decode cX12_compiles 39 = .ok (.istore_n 2, 1) := by decide +kernel
theorem dX12_compiles_40 : decode cX12_compiles 40 = .ok (.iload_n 2, 1) := by decide +kernel
theorem dX12_compiles_41 : decode cX12_compiles 41 = .ok (.aload_n 0, 1) := by decide +kernel
theorem dX12_compiles_42 : decode cX12_compiles 42 = .ok (.getfield 607, 3) := by decide +kernel
theorem dX12_compiles_45 : decode cX12_compiles 45 = .ok (.if_icmp .ge 27, 3) := by decide +kernel
theorem dX12_compiles_48 : decode cX12_compiles 48 = .ok (.aload_n 0, 1) := by decide +kernel
theorem dX12_compiles_49 : decode cX12_compiles 49 = .ok (.getfield 255, 3) := by decide +kernel
theorem dX12_compiles_52 : decode cX12_compiles 52 = .ok (.sipush 9900, 3) := by decide +kernel
theorem dX12_compiles_55 : decode cX12_compiles 55 = .ok (.iload_n 1, 1) := by decide +kernel
theorem dX12_compiles_56 : decode cX12_compiles 56 = .ok (.imul, 1) := by decide +kernel
theorem dX12_compiles_57 : decode cX12_compiles 57 = .ok (.iload_n 2, 1) := by decide +kernel
theorem dX12_compiles_58 : decode cX12_compiles 58 = .ok (.iadd, 1) := by decide +kernel
theorem dX12_compiles_59 : decode cX12_compiles 59 = .ok (.aload_n 0, 1) := by decide +kernel
theorem dX12_compiles_60 : decode cX12_compiles 60 = .ok (.getfield 251, 3) := by decide +kernel
theorem dX12_compiles_63 : decode cX12_compiles 63 = .ok (.iload_n 2, 1) := by decide +kernel
theorem dX12_compiles_64 : decode cX12_compiles 64 = .ok (.iaload, 1) := by decide +kernel
theorem dX12_compiles_65 : decode cX12_compiles 65 = .ok (.iastore, 1) := by decide +kernel
theorem dX12_compiles_66 : decode cX12_compiles 66 = .ok (.iinc 2 1, 3) := by decide +kernel
theorem dX12_compiles_69 : decode cX12_compiles 69 = .ok (.goto (-29), 3) := by decide +kernel
theorem dX12_compiles_72 : decode cX12_compiles 72 = .ok (.aload_n 0, 1) := by decide +kernel
theorem dX12_compiles_73 : decode cX12_compiles 73 = .ok (.getfield 258, 3) := by decide +kernel
theorem dX12_compiles_76 : decode cX12_compiles 76 = .ok (.iload_n 1, 1) := by decide +kernel
theorem dX12_compiles_77 : decode cX12_compiles 77 = .ok (.aload_n 0, 1) := by decide +kernel
theorem dX12_compiles_78 : decode cX12_compiles 78 = .ok (.getfield 607, 3) := by decide +kernel
theorem dX12_compiles_81 : decode cX12_compiles 81 = .ok (.iastore, 1) := by decide +kernel
theorem dX12_compiles_82 : decode cX12_compiles 82 = .ok (.aload_n 0, 1) := by decide +kernel
theorem dX12_compiles_83 : decode cX12_compiles 83 = .ok (.iconst 0, 1) := by decide +kernel
theorem dX12_compiles_84 : decode cX12_compiles 84 = .ok (.putfield 607, 3) := by decide +kernel
theorem dX12_compiles_87 : decode cX12_compiles 87 = .ok (.aload_n 0, 1) := by decide +kernel
theorem dX12_compiles_88 : decode cX12_compiles 88 = .ok (.iload_n 1, 1) := by decide +kernel
theorem dX12_compiles_89 : decode cX12_compiles 89 = .ok (.sipush 1023, 3) := by decide +kernel
theorem dX12_compiles_92 : decode cX12_compiles 92 = .ok (.invokevirtual 628, 3) := by decide +kernel
theorem dX12_compiles_95 : decode cX12_compiles 95 = .ok (.iconst 0, 1) := by decide +kernel
theorem dX12_compiles_96 : decode cX12_compiles 96 = .ok (.istore_n 2, 1) := by decide +kernel
theorem dX12_compiles_97 : decode cX12_compiles 97 = .ok (.iload_n 2, 1) := by decide +kernel
theorem dX12_compiles_98 : decode cX12_compiles 98 = .ok (.aload_n 0, 1) := by decide +kernel
theorem dX12_compiles_99 : decode cX12_compiles 99 = .ok (.getfield 607, 3) := by decide +kernel
theorem dX12_compiles_102 : decode cX12_compiles 102 = .ok (.if_icmp .ge 27, 3) := by decide +kernel
theorem dX12_compiles_105 : decode cX12_compiles 105 = .ok (.aload_n 0, 1) := by decide +kernel
theorem dX12_compiles_106 : decode cX12_compiles 106 = .ok (.getfield 262, 3) := by decide +kernel
theorem dX12_compiles_109 : decode cX12_compiles 109 = .ok (.sipush 3400, 3) := by decide +kernel
theorem dX12_compiles_112 : decode cX12_compiles 112 = .ok (.iload_n 1, 1) := by decide +kernel
theorem dX12_compiles_113 : decode cX12_compiles 113 = .ok (.imul, 1) := by decide +kernel
theorem dX12_compiles_114 : decode cX12_compiles 114 = .ok (.iload_n 2, 1) := by decide +kernel
theorem dX12_compiles_115 : decode cX12_compiles 115 = .ok (.iadd, 1) := by decide +kernel
theorem dX12_compiles_116 : decode cX12_compiles 116 = .ok (.aload_n 0, 1) := by decide +kernel
theorem dX12_compiles_117 : decode cX12_compiles 117 = .ok (.getfield 251, 3) := by decide +kernel
theorem dX12_compiles_120 : decode cX12_compiles 120 = .ok (.iload_n 2, 1) := by decide +kernel
theorem dX12_compiles_121 : decode cX12_compiles 121 = .ok (.iaload, 1) := by decide +kernel
theorem dX12_compiles_122 : decode cX12_compiles 122 = .ok (.iastore, 1) := by decide +kernel
theorem dX12_compiles_123 : decode cX12_compiles 123 = .ok (.iinc 2 1, 3) := by decide +kernel
theorem dX12_compiles_126 : decode cX12_compiles 126 = .ok (.goto (-29), 3) := by decide +kernel
theorem dX12_compiles_129 : decode cX12_compiles 129 = .ok (.aload_n 0, 1) := by decide +kernel
theorem dX12_compiles_130 : decode cX12_compiles 130 = .ok (.getfield 265, 3) := by decide +kernel
theorem dX12_compiles_133 : decode cX12_compiles 133 = .ok (.iload_n 1, 1) := by decide +kernel
theorem dX12_compiles_134 : decode cX12_compiles 134 = .ok (.aload_n 0, 1) := by decide +kernel
theorem dX12_compiles_135 : decode cX12_compiles 135 = .ok (.getfield 607, 3) := by decide +kernel
theorem dX12_compiles_138 : decode cX12_compiles 138 = .ok (.iastore, 1) := by decide +kernel
theorem dX12_compiles_139 : decode cX12_compiles 139 = .ok (.aload_n 0, 1) := by decide +kernel
theorem dX12_compiles_140 : decode cX12_compiles 140 = .ok (.getfield 268, 3) := by decide +kernel
theorem dX12_compiles_143 : decode cX12_compiles 143 = .ok (.iload_n 1, 1) := by decide +kernel
theorem dX12_compiles_144 : decode cX12_compiles 144 = .ok (.dup2, 1) := by decide +kernel
theorem dX12_compiles_145 : decode cX12_compiles 145 = .ok (.iaload, 1) := by decide +kernel
theorem dX12_compiles_146 : decode cX12_compiles 146 = .ok (.iconst 1, 1) := by decide +kernel
theorem dX12_compiles_147 : decode cX12_compiles 147 = .ok (.iadd, 1) := by decide +kernel
theorem dX12_compiles_148 : decode cX12_compiles 148 = .ok (.iastore, 1) := by decide +kernel
theorem dX12_compiles_149 : decode cX12_compiles 149 = .ok (.iconst 1, 1) := by decide +kernel
theorem dX12_compiles_150 : decode cX12_compiles 150 = .ok (.ireturn, 1) := by decide +kernel
theorem dX12_build_0 : decode cX12_build 0 = .ok (.aload_n 0, 1) := by decide +kernel
theorem dX12_build_1 : decode cX12_build 1 = .ok (.aload_n 0, 1) := by decide +kernel
theorem dX12_build_2 : decode cX12_build 2 = .ok (.iload_n 1, 1) := by decide +kernel
theorem dX12_build_3 : decode cX12_build 3 = .ok (.invokevirtual 330, 3) := by decide +kernel
theorem dX12_build_6 : decode cX12_build 6 = .ok (.iconst 1, 1) := by decide +kernel
theorem dX12_build_7 : decode cX12_build 7 = .ok (.iconst 1, 1) := by decide +kernel
theorem dX12_build_8 : decode cX12_build 8 = .ok (.invokevirtual 298, 3) := by decide +kernel
theorem dX12_build_11 : decode cX12_build 11 = .ok (.ifCond .ne 5, 3) := by decide +kernel
theorem dX12_build_14 : decode cX12_build 14 = .ok (.iconst 0, 1) := by decide +kernel
theorem dX12_build_15 : decode cX12_build 15 = .ok (.ireturn, 1) := by decide +kernel
theorem dX12_build_16 : decode cX12_build 16 = .ok (.aload_n 0, 1) := by decide +kernel
theorem dX12_build_17 : decode cX12_build 17 = .ok (.lconst 1, 1) := by decide +kernel
theorem dX12_build_18 : decode cX12_build 18 = .ok (.iload_n 1, 1) := by decide +kernel
theorem dX12_build_19 : decode cX12_build 19 = .ok (.lshl, 1) := by decide +kernel
theorem dX12_build_20 : decode cX12_build 20 = .ok (.invokevirtual 477, 3) := by decide +kernel
theorem dX12_build_23 : decode cX12_build 23 = .ok (.aload_n 0, 1) := by decide +kernel
theorem dX12_build_24 : decode cX12_build 24 = .ok (.lconst 1, 1) := by decide +kernel
theorem dX12_build_25 : decode cX12_build 25 = .ok (.iload_n 1, 1) := by decide +kernel
theorem dX12_build_26 : decode cX12_build 26 = .ok (.lshl, 1) := by decide +kernel
theorem dX12_build_27 : decode cX12_build 27 = .ok (.invokevirtual 470, 3) := by decide +kernel
theorem dX12_build_30 : decode cX12_build 30 = .ok (.lstore_n 2, 1) := by decide +kernel
theorem dX12_build_31 : decode cX12_build 31 = .ok (.iconst 0, 1) := by decide +kernel
theorem dX12_build_32 : decode cX12_build 32 = .ok (.istore 4, 2) := by decide +kernel
theorem dX12_build_34 : decode cX12_build 34 = .ok (.iconst 0, 1) := by decide +kernel
theorem dX12_build_35 : decode cX12_build 35 = .ok (.istore 5, 2) := by decide +kernel
theorem dX12_build_37 : decode cX12_build 37 = .ok (.iload 5, 2) := by decide +kernel
theorem dX12_build_39 : decode cX12_build 39 = .ok (.aload_n 0, 1) := by decide +kernel
theorem dX12_build_40 : decode cX12_build 40 = .ok (.getfield 288, 3) := by decide +kernel
theorem dX12_build_43 : decode cX12_build 43 = .ok (.if_icmp .ge 39, 3) := by decide +kernel
theorem dX12_build_46 : decode cX12_build 46 = .ok (.iload 4, 2) := by decide +kernel
theorem dX12_build_48 : decode cX12_build 48 = .ok (.lload_n 2, 1) := by decide +kernel
theorem dX12_build_49 : decode cX12_build 49 = .ok (.iload 5, 2) := by decide +kernel
theorem dX12_build_51 : decode cX12_build 51 = .ok (.lshr, 1) := by decide +kernel
theorem dX12_build_52 : decode cX12_build 52 = .ok (.lconst 1, 1) := by decide +kernel
theorem dX12_build_53 : decode cX12_build 53 = .ok (.land, 1) := by decide +kernel
theorem dX12_build_54 : decode cX12_build 54 = .ok (.lconst 1, 1) := by decide +kernel
theorem dX12_build_55 : decode cX12_build 55 = .ok (.lcmp, 1) := by decide +kernel
theorem dX12_build_56 : decode cX12_build 56 = .ok (.ifCond .ne 16, 3) := by decide +kernel
theorem dX12_build_59 : decode cX12_build 59 = .ok (.aload_n 0, 1) := by decide +kernel
theorem dX12_build_60 : decode cX12_build 60 = .ok (.iload 5, 2) := by decide +kernel
theorem dX12_build_62 : decode cX12_build 62 = .ok (.invokevirtual 638, 3) := by decide +kernel
theorem dX12_build_65 : decode cX12_build 65 = .ok (.ifCond .eq 7, 3) := by decide +kernel
theorem dX12_build_68 : decode cX12_build 68 = .ok (.iconst 1, 1) := by decide +kernel
theorem dX12_build_69 : decode cX12_build 69 = .ok (.goto 4, 3) := by decide +kernel
theorem dX12_build_72 : decode cX12_build 72 = .ok (.iconst 0, 1) := by decide +kernel
theorem dX12_build_73 : decode cX12_build 73 = .ok (.iadd, 1) := by decide +kernel
theorem dX12_build_74 : decode cX12_build 74 = .ok (.istore 4, 2) := by decide +kernel
theorem dX12_build_76 : decode cX12_build 76 = .ok (.iinc 5 1, 3) := by decide +kernel
theorem dX12_build_79 : decode cX12_build 79 = .ok (.goto (-42), 3) := by decide +kernel
theorem dX12_build_82 : decode cX12_build 82 = .ok (.iload 4, 2) := by decide +kernel
theorem dX12_build_84 : decode cX12_build 84 = .ok (.ireturn, 1) := by decide +kernel
theorem dX12_compiled_0 : decode cX12_compiled 0 = .ok (.aload_n 0, 1) := by decide +kernel
theorem dX12_compiled_1 : decode cX12_compiled 1 = .ok (.aload_n 0, 1) := by decide +kernel
theorem dX12_compiled_2 : decode cX12_compiled 2 = .ok (.iload_n 1, 1) := by decide +kernel
theorem dX12_compiled_3 : decode cX12_compiled 3 = .ok (.invokevirtual 330, 3) := by decide +kernel
theorem dX12_compiled_6 : decode cX12_compiled 6 = .ok (.iconst 1, 1) := by decide +kernel
theorem dX12_compiled_7 : decode cX12_compiled 7 = .ok (.iconst 1, 1) := by decide +kernel
theorem dX12_compiled_8 : decode cX12_compiled 8 = .ok (.invokevirtual 298, 3) := by decide +kernel
theorem dX12_compiled_11 : decode cX12_compiled 11 = .ok (.ifCond .eq 12, 3) := by decide +kernel
theorem dX12_compiled_14 : decode cX12_compiled 14 = .ok (.aload_n 0, 1) := by decide +kernel
theorem dX12_compiled_15 : decode cX12_compiled 15 = .ok (.getfield 268, 3) := by decide +kernel
theorem dX12_compiled_18 : decode cX12_compiled 18 = .ok (.iload_n 1, 1) := by decide +kernel
theorem dX12_compiled_19 : decode cX12_compiled 19 = .ok (.iaload, 1) := by decide +kernel
theorem dX12_compiled_20 : decode cX12_compiled 20 = .ok (.goto 4, 3) := by decide +kernel
theorem dX12_compiled_23 : decode cX12_compiled 23 = .ok (.iconst 0, 1) := by decide +kernel
theorem dX12_compiled_24 : decode cX12_compiled 24 = .ok (.ireturn, 1) := by decide +kernel
theorem dX12_isFresh_0 : decode cX12_isFresh 0 = .ok (.aload_n 0, 1) := by decide +kernel
theorem dX12_isFresh_1 : decode cX12_isFresh 1 = .ok (.aload_n 0, 1) := by decide +kernel
theorem dX12_isFresh_2 : decode cX12_isFresh 2 = .ok (.iload_n 1, 1) := by decide +kernel
theorem dX12_isFresh_3 : decode cX12_isFresh 3 = .ok (.invokevirtual 330, 3) := by decide +kernel
theorem dX12_isFresh_6 : decode cX12_isFresh 6 = .ok (.iconst 1, 1) := by decide +kernel
theorem dX12_isFresh_7 : decode cX12_isFresh 7 = .ok (.iconst 1, 1) := by decide +kernel
theorem dX12_isFresh_8 : decode cX12_isFresh 8 = .ok (.invokevirtual 298, 3) := by decide +kernel
theorem dX12_isFresh_11 : decode cX12_isFresh 11 = .ok (.ifCond .ne 5, 3) := by decide +kernel
theorem dX12_isFresh_14 : decode cX12_isFresh 14 = .ok (.iconst 0, 1) := by decide +kernel
theorem dX12_isFresh_15 : decode cX12_isFresh 15 = .ok (.ireturn, 1) := by decide +kernel
theorem dX12_isFresh_16 : decode cX12_isFresh 16 = .ok (.aload_n 0, 1) := by decide +kernel
theorem dX12_isFresh_17 : decode cX12_isFresh 17 = .ok (.lconst 1, 1) := by decide +kernel
theorem dX12_isFresh_18 : decode cX12_isFresh 18 = .ok (.iload_n 1, 1) := by decide +kernel
theorem dX12_isFresh_19 : decode cX12_isFresh 19 = .ok (.lshl, 1) := by decide +kernel
theorem dX12_isFresh_20 : decode cX12_isFresh 20 = .ok (.invokevirtual 477, 3) := by decide +kernel
theorem dX12_isFresh_23 : decode cX12_isFresh 23 = .ok (.aload_n 0, 1) := by decide +kernel
theorem dX12_isFresh_24 : decode cX12_isFresh 24 = .ok (.iconst 0, 1) := by decide +kernel
theorem dX12_isFresh_25 : decode cX12_isFresh 25 = .ok (.putfield 607, 3) := by decide +kernel
theorem dX12_isFresh_28 : decode cX12_isFresh 28 = .ok (.aload_n 0, 1) := by decide +kernel
theorem dX12_isFresh_29 : decode cX12_isFresh 29 = .ok (.iload_n 1, 1) := by decide +kernel
theorem dX12_isFresh_30 : decode cX12_isFresh 30 = .ok (.sipush 1023, 3) := by decide +kernel
theorem dX12_isFresh_33 : decode cX12_isFresh 33 = .ok (.invokevirtual 628, 3) := by decide +kernel
theorem dX12_isFresh_36 : decode cX12_isFresh 36 = .ok (.aload_n 0, 1) := by decide +kernel
theorem dX12_isFresh_37 : decode cX12_isFresh 37 = .ok (.getfield 268, 3) := by decide +kernel
theorem dX12_isFresh_40 : decode cX12_isFresh 40 = .ok (.iload_n 1, 1) := by decide +kernel
theorem dX12_isFresh_41 : decode cX12_isFresh 41 = .ok (.iaload, 1) := by decide +kernel
theorem dX12_isFresh_42 : decode cX12_isFresh 42 = .ok (.ifCond .eq 25, 3) := by decide +kernel
theorem dX12_isFresh_45 : decode cX12_isFresh 45 = .ok (.aload_n 0, 1) := by decide +kernel
theorem dX12_isFresh_46 : decode cX12_isFresh 46 = .ok (.aload_n 0, 1) := by decide +kernel
theorem dX12_isFresh_47 : decode cX12_isFresh 47 = .ok (.getfield 262, 3) := by decide +kernel
theorem dX12_isFresh_50 : decode cX12_isFresh 50 = .ok (.sipush 3400, 3) := by decide +kernel
theorem dX12_isFresh_53 : decode cX12_isFresh 53 = .ok (.iload_n 1, 1) := by decide +kernel
theorem dX12_isFresh_54 : decode cX12_isFresh 54 = .ok (.imul, 1) := by decide +kernel
theorem dX12_isFresh_55 : decode cX12_isFresh 55 = .ok (.aload_n 0, 1) := by decide +kernel
theorem dX12_isFresh_56 : decode cX12_isFresh 56 = .ok (.getfield 265, 3) := by decide +kernel
theorem dX12_isFresh_59 : decode cX12_isFresh 59 = .ok (.iload_n 1, 1) := by decide +kernel
theorem dX12_isFresh_60 : decode cX12_isFresh 60 = .ok (.iaload, 1) := by decide +kernel
theorem dX12_isFresh_61 : decode cX12_isFresh 61 = .ok (.invokevirtual 634, 3) := by decide +kernel
theorem dX12_isFresh_64 : decode cX12_isFresh 64 = .ok (.ifCond .eq 7, 3) := by decide +kernel
theorem dX12_isFresh_67 : decode cX12_isFresh 67 = .ok (.iconst 1, 1) := by decide +kernel
theorem dX12_isFresh_68 : decode cX12_isFresh 68 = .ok (.goto 4, 3) := by decide +kernel
theorem dX12_isFresh_71 : decode cX12_isFresh 71 = .ok (.iconst 0, 1) := by decide +kernel
theorem dX12_isFresh_72 : decode cX12_isFresh 72 = .ok (.ireturn, 1) := by decide +kernel
theorem dX12_init_0 : decode cX12_init 0 = .ok (.aload_n 0, 1) := by decide +kernel
theorem dX12_init_1 : decode cX12_init 1 = .ok (.invokespecial 1, 3) := by decide +kernel
theorem dX12_init_4 : decode cX12_init 4 = .ok (.aload_n 0, 1) := by decide +kernel
theorem dX12_init_5 : decode cX12_init 5 = .ok (.bipush 60, 2) := by decide +kernel
theorem dX12_init_7 : decode cX12_init 7 = .ok (.newarray .int, 2) := by decide +kernel
theorem dX12_init_9 : decode cX12_init 9 = .ok (.putfield 7, 3) := by decide +kernel
theorem dX12_init_12 : decode cX12_init 12 = .ok (.aload_n 0, 1) := by decide +kernel
theorem dX12_init_13 : decode cX12_init 13 = .ok (.bipush 60, 2) := by decide +kernel
theorem dX12_init_15 : decode cX12_init 15 = .ok (.newarray .int, 2) := by decide +kernel
theorem dX12_init_17 : decode cX12_init 17 = .ok (.putfield 13, 3) := by decide +kernel
theorem dX12_init_20 : decode cX12_init 20 = .ok (.aload_n 0, 1) := by decide +kernel
theorem dX12_init_21 : decode cX12_init 21 = .ok (.bipush 60, 2) := by decide +kernel
theorem dX12_init_23 : decode cX12_init 23 = .ok (.newarray .int, 2) := by decide +kernel
theorem dX12_init_25 : decode cX12_init 25 = .ok (.putfield 16, 3) := by decide +kernel
theorem dX12_init_28 : decode cX12_init 28 = .ok (.aload_n 0, 1) := by decide +kernel
theorem dX12_init_29 : decode cX12_init 29 = .ok (.bipush 60, 2) := by decide +kernel
theorem dX12_init_31 : decode cX12_init 31 = .ok (.newarray .int, 2) := by decide +kernel
theorem dX12_init_33 : decode cX12_init 33 = .ok (.putfield 19, 3) := by decide +kernel
theorem dX12_init_36 : decode cX12_init 36 = .ok (.aload_n 0, 1) := by decide +kernel
theorem dX12_init_37 : decode cX12_init 37 = .ok (.bipush 60, 2) := by decide +kernel
theorem dX12_init_39 : decode cX12_init 39 = .ok (.newarray .int, 2) := by decide +kernel
theorem dX12_init_41 : decode cX12_init 41 = .ok (.putfield 22, 3) := by decide +kernel
theorem dX12_init_44 : decode cX12_init 44 = .ok (.aload_n 0, 1) := by decide +kernel
theorem dX12_init_45 : decode cX12_init 45 = .ok (.bipush 120, 2) := by decide +kernel
theorem dX12_init_47 : decode cX12_init 47 = .ok (.newarray .int, 2) := by decide +kernel
theorem dX12_init_49 : decode cX12_init 49 = .ok (.putfield 25, 3) := by decide +kernel
theorem dX12_init_52 : decode cX12_init 52 = .ok (.aload_n 0, 1) := by decide +kernel
theorem dX12_init_53 : decode cX12_init 53 = .ok (.bipush 120, 2) := by decide +kernel
theorem dX12_init_55 : decode cX12_init 55 = .ok (.newarray .int, 2) := by decide +kernel
theorem dX12_init_57 : decode cX12_init 57 = .ok (.putfield 28, 3) := by decide +kernel
theorem dX12_init_60 : decode cX12_init 60 = .ok (.aload_n 0, 1) := by decide +kernel
theorem dX12_init_61 : decode cX12_init 61 = .ok (.bipush 120, 2) := by decide +kernel
theorem dX12_init_63 : decode cX12_init 63 = .ok (.newarray .int, 2) := by decide +kernel
theorem dX12_init_65 : decode cX12_init 65 = .ok (.putfield 31, 3) := by decide +kernel
theorem dX12_init_68 : decode cX12_init 68 = .ok (.aload_n 0, 1) := by decide +kernel
theorem dX12_init_69 : decode cX12_init 69 = .ok (.bipush 120, 2) := by decide +kernel
theorem dX12_init_71 : decode cX12_init 71 = .ok (.newarray .int, 2) := by decide +kernel
theorem dX12_init_73 : decode cX12_init 73 = .ok (.putfield 34, 3) := by decide +kernel
theorem dX12_init_76 : decode cX12_init 76 = .ok (.aload_n 0, 1) := by decide +kernel
theorem dX12_init_77 : decode cX12_init 77 = .ok (.bipush 120, 2) := by decide +kernel
theorem dX12_init_79 : decode cX12_init 79 = .ok (.newarray .int, 2) := by decide +kernel
theorem dX12_init_81 : decode cX12_init 81 = .ok (.putfield 37, 3) := by decide +kernel
theorem dX12_init_84 : decode cX12_init 84 = .ok (.aload_n 0, 1) := by decide +kernel
theorem dX12_init_85 : decode cX12_init 85 = .ok (.bipush 8, 2) := by decide +kernel
theorem dX12_init_87 : decode cX12_init 87 = .ok (.newarray .int, 2) := by decide +kernel
theorem dX12_init_89 : decode cX12_init 89 = .ok (.putfield 40, 3) := by decide +kernel
theorem dX12_init_92 : decode cX12_init 92 = .ok (.aload_n 0, 1) := by decide +kernel
theorem dX12_init_93 : decode cX12_init 93 = .ok (.sipush 240, 3) := by decide +kernel
theorem dX12_init_96 : decode cX12_init 96 = .ok (.newarray .int, 2) := by decide +kernel
theorem dX12_init_98 : decode cX12_init 98 = .ok (.putfield 43, 3) := by decide +kernel
theorem dX12_init_101 : decode cX12_init 101 = .ok (.aload_n 0, 1) := by decide +kernel
theorem dX12_init_102 : decode cX12_init 102 = .ok (.sipush 400, 3) := by decide +kernel
theorem dX12_init_105 : decode cX12_init 105 = .ok (.newarray .int, 2) := by decide +kernel
theorem dX12_init_107 : decode cX12_init 107 = .ok (.putfield 46, 3) := by decide +kernel
theorem dX12_init_110 : decode cX12_init 110 = .ok (.aload_n 0, 1) := by decide +kernel
theorem dX12_init_111 : decode cX12_init 111 = .ok (.sipush 400, 3) := by decide +kernel
theorem dX12_init_114 : decode cX12_init 114 = .ok (.newarray .int, 2) := by decide +kernel
theorem dX12_init_116 : decode cX12_init 116 = .ok (.putfield 49, 3) := by decide +kernel
theorem dX12_init_119 : decode cX12_init 119 = .ok (.aload_n 0, 1) := by decide +kernel
theorem dX12_init_120 : decode cX12_init 120 = .ok (.sipush 400, 3) := by decide +kernel
theorem dX12_init_123 : decode cX12_init 123 = .ok (.newarray .int, 2) := by decide +kernel
theorem dX12_init_125 : decode cX12_init 125 = .ok (.putfield 52, 3) := by decide +kernel
theorem dX12_init_128 : decode cX12_init 128 = .ok (.aload_n 0, 1) := by decide +kernel
theorem dX12_init_129 : decode cX12_init 129 = .ok (.bipush 40, 2) := by decide +kernel
theorem dX12_init_131 : decode cX12_init 131 = .ok (.newarray .int, 2) := by decide +kernel
theorem dX12_init_133 : decode cX12_init 133 = .ok (.putfield 55, 3) := by decide +kernel
theorem dX12_init_136 : decode cX12_init 136 = .ok (.aload_n 0, 1) := by decide +kernel
theorem dX12_init_137 : decode cX12_init 137 = .ok (.bipush 40, 2) := by decide +kernel
theorem dX12_init_139 : decode cX12_init 139 = .ok (.newarray .int, 2) := by decide +kernel
theorem dX12_init_141 : decode cX12_init 141 = .ok (.putfield 58, 3) := by decide +kernel
theorem dX12_init_144 : decode cX12_init 144 = .ok (.aload_n 0, 1) := by decide +kernel
theorem dX12_init_145 : decode cX12_init 145 = .ok (.bipush 40, 2) := by decide +kernel
theorem dX12_init_147 : decode cX12_init 147 = .ok (.newarray .int, 2) := by decide +kernel
theorem dX12_init_149 : decode cX12_init 149 = .ok (.putfield 61, 3) := by decide +kernel
theorem dX12_init_152 : decode cX12_init 152 = .ok (.aload_n 0, 1) := by decide +kernel
theorem dX12_init_153 : decode cX12_init 153 = .ok (.bipush 40, 2) := by decide +kernel
theorem dX12_init_155 : decode cX12_init 155 = .ok (.newarray .int, 2) := by decide +kernel
theorem dX12_init_157 : decode cX12_init 157 = .ok (.putfield 64, 3) := by decide +kernel
theorem dX12_init_160 : decode cX12_init 160 = .ok (.aload_n 0, 1) := by decide +kernel
theorem dX12_init_161 : decode cX12_init 161 = .ok (.bipush 40, 2) := by decide +kernel
theorem dX12_init_163 : decode cX12_init 163 = .ok (.newarray .int, 2) := by decide +kernel
theorem dX12_init_165 : decode cX12_init 165 = .ok (.putfield 67, 3) := by decide +kernel
theorem dX12_init_168 : decode cX12_init 168 = .ok (.aload_n 0, 1) := by decide +kernel
theorem dX12_init_169 : decode cX12_init 169 = .ok (.bipush 40, 2) := by decide +kernel
theorem dX12_init_171 : decode cX12_init 171 = .ok (.newarray .boolean, 2) := by decide +kernel
theorem dX12_init_173 : decode cX12_init 173 = .ok (.putfield 70, 3) := by decide +kernel
theorem dX12_init_176 : decode cX12_init 176 = .ok (.aload_n 0, 1) := by decide +kernel
theorem dX12_init_177 : decode cX12_init 177 = .ok (.ldc 74, 2) := by decide +kernel
theorem dX12_init_179 : decode cX12_init 179 = .ok (.newarray .int, 2) := by decide +kernel
theorem dX12_init_181 : decode cX12_init 181 = .ok (.putfield 75, 3) := by decide +kernel
theorem dX12_init_184 : decode cX12_init 184 = .ok (.aload_n 0, 1) := by decide +kernel
theorem dX12_init_185 : decode cX12_init 185 = .ok (.ldc 74, 2) := by decide +kernel
theorem dX12_init_187 : decode cX12_init 187 = .ok (.newarray .int, 2) := by decide +kernel
theorem dX12_init_189 : decode cX12_init 189 = .ok (.putfield 78, 3) := by decide +kernel
theorem dX12_init_192 : decode cX12_init 192 = .ok (.aload_n 0, 1) := by decide +kernel
theorem dX12_init_193 : decode cX12_init 193 = .ok (.ldc 74, 2) := by decide +kernel
theorem dX12_init_195 : decode cX12_init 195 = .ok (.newarray .int, 2) := by decide +kernel
theorem dX12_init_197 : decode cX12_init 197 = .ok (.putfield 81, 3) := by decide +kernel
theorem dX12_init_200 : decode cX12_init 200 = .ok (.aload_n 0, 1) := by decide +kernel
theorem dX12_init_201 : decode cX12_init 201 = .ok (.ldc 74, 2) := by decide +kernel
theorem dX12_init_203 : decode cX12_init 203 = .ok (.newarray .int, 2) := by decide +kernel
theorem dX12_init_205 : decode cX12_init 205 = .ok (.putfield 84, 3) := by decide +kernel
theorem dX12_init_208 : decode cX12_init 208 = .ok (.aload_n 0, 1) := by decide +kernel
theorem dX12_init_209 : decode cX12_init 209 = .ok (.ldc 74, 2) := by decide +kernel
theorem dX12_init_211 : decode cX12_init 211 = .ok (.newarray .int, 2) := by decide +kernel
theorem dX12_init_213 : decode cX12_init 213 = .ok (.putfield 87, 3) := by decide +kernel
theorem dX12_init_216 : decode cX12_init 216 = .ok (.aload_n 0, 1) := by decide +kernel
theorem dX12_init_217 : decode cX12_init 217 = .ok (.sipush 16384, 3) := by decide +kernel
theorem dX12_init_220 : decode cX12_init 220 = .ok (.newarray .int, 2) := by decide +kernel
theorem dX12_init_222 : decode cX12_init 222 = .ok (.putfield 90, 3) := by decide +kernel
theorem dX12_init_225 : decode cX12_init 225 = .ok (.aload_n 0, 1) := by decide +kernel
theorem dX12_init_226 : decode cX12_init 226 = .ok (.ldc 74, 2) := by decide +kernel
theorem dX12_init_228 : decode cX12_init 228 = .ok (.newarray .int, 2) := by decide +kernel
theorem dX12_init_230 : decode cX12_init 230 = .ok (.putfield 93, 3) := by decide +kernel
theorem dX12_init_233 : decode cX12_init 233 = .ok (.aload_n 0, 1) := by decide +kernel
theorem dX12_init_234 : decode cX12_init 234 = .ok (.ldc 74, 2) := by decide +kernel
theorem dX12_init_236 : decode cX12_init 236 = .ok (.newarray .int, 2) := by decide +kernel
theorem dX12_init_238 : decode cX12_init 238 = .ok (.putfield 96, 3) := by decide +kernel
theorem dX12_init_241 : decode cX12_init 241 = .ok (.aload_n 0, 1) := by decide +kernel
theorem dX12_init_242 : decode cX12_init 242 = .ok (.sipush 20000, 3) := by decide +kernel
theorem dX12_init_245 : decode cX12_init 245 = .ok (.newarray .int, 2) := by decide +kernel
theorem dX12_init_247 : decode cX12_init 247 = .ok (.putfield 99, 3) := by decide +kernel
theorem dX12_init_250 : decode cX12_init 250 = .ok (.aload_n 0, 1) := by decide +kernel
theorem dX12_init_251 : decode cX12_init 251 = .ok (.bipush 6, 2) := by decide +kernel
theorem dX12_init_253 : decode cX12_init 253 = .ok (.newarray .int, 2) := by decide +kernel
theorem dX12_init_255 : decode cX12_init 255 = .ok (.putfield 102, 3) := by decide +kernel
theorem dX12_init_258 : decode cX12_init 258 = .ok (.aload_n 0, 1) := by decide +kernel
theorem dX12_init_259 : decode cX12_init 259 = .ok (.bipush 6, 2) := by decide +kernel
theorem dX12_init_261 : decode cX12_init 261 = .ok (.newarray .int, 2) := by decide +kernel
theorem dX12_init_263 : decode cX12_init 263 = .ok (.putfield 105, 3) := by decide +kernel
theorem dX12_init_266 : decode cX12_init 266 = .ok (.aload_n 0, 1) := by decide +kernel
theorem dX12_init_267 : decode cX12_init 267 = .ok (.ldc 108, 2) := by decide +kernel
theorem dX12_init_269 : decode cX12_init 269 = .ok (.newarray .int, 2) := by decide +kernel
theorem dX12_init_271 : decode cX12_init 271 = .ok (.putfield 109, 3) := by decide +kernel
theorem dX12_init_274 : decode cX12_init 274 = .ok (.aload_n 0, 1) := by decide +kernel
theorem dX12_init_275 : decode cX12_init 275 = .ok (.ldc 108, 2) := by decide +kernel
theorem dX12_init_277 : decode cX12_init 277 = .ok (.newarray .int, 2) := by decide +kernel
theorem dX12_init_279 : decode cX12_init 279 = .ok (.putfield 112, 3) := by decide +kernel
theorem dX12_init_282 : decode cX12_init 282 = .ok (.aload_n 0, 1) := by decide +kernel
theorem dX12_init_283 : decode cX12_init 283 = .ok (.ldc 108, 2) := by decide +kernel
theorem dX12_init_285 : decode cX12_init 285 = .ok (.newarray .int, 2) := by decide +kernel
theorem dX12_init_287 : decode cX12_init 287 = .ok (.putfield 115, 3) := by decide +kernel
theorem dX12_init_290 : decode cX12_init 290 = .ok (.aload_n 0, 1) := by decide +kernel
theorem dX12_init_291 : decode cX12_init 291 = .ok (.ldc 108, 2) := by decide +kernel
theorem dX12_init_293 : decode cX12_init 293 = .ok (.newarray .int, 2) := by decide +kernel
theorem dX12_init_295 : decode cX12_init 295 = .ok (.putfield 118, 3) := by decide +kernel
theorem dX12_init_298 : decode cX12_init 298 = .ok (.aload_n 0, 1) := by decide +kernel
theorem dX12_init_299 : decode cX12_init 299 = .ok (.ldc 108, 2) := by decide +kernel
theorem dX12_init_301 : decode cX12_init 301 = .ok (.newarray .int, 2) := by decide +kernel
theorem dX12_init_303 : decode cX12_init 303 = .ok (.putfield 121, 3) := by decide +kernel
theorem dX12_init_306 : decode cX12_init 306 = .ok (.aload_n 0, 1) := by decide +kernel
theorem dX12_init_307 : decode cX12_init 307 = .ok (.sipush 4096, 3) := by decide +kernel
theorem dX12_init_310 : decode cX12_init 310 = .ok (.newarray .int, 2) := by decide +kernel
theorem dX12_init_312 : decode cX12_init 312 = .ok (.putfield 124, 3) := by decide +kernel
theorem dX12_init_315 : decode cX12_init 315 = .ok (.aload_n 0, 1) := by decide +kernel
theorem dX12_init_316 : decode cX12_init 316 = .ok (.sipush 258, 3) := by decide +kernel
theorem dX12_init_319 : decode cX12_init 319 = .ok (.newarray .int, 2) := by decide +kernel
theorem dX12_init_321 : decode cX12_init 321 = .ok (.putfield 127, 3) := by decide +kernel
theorem dX12_init_324 : decode cX12_init 324 = .ok (.aload_n 0, 1) := by decide +kernel
theorem dX12_init_325 : decode cX12_init 325 = .ok (.sipush 430, 3) := by decide +kernel
theorem dX12_init_328 : decode cX12_init 328 = .ok (.newarray .int, 2) := by decide +kernel
theorem dX12_init_330 : decode cX12_init 330 = .ok (.putfield 130, 3) := by decide +kernel
theorem dX12_init_333 : decode cX12_init 333 = .ok (.aload_n 0, 1) := by decide +kernel
theorem dX12_init_334 : decode cX12_init 334 = .ok (.sipush 430, 3) := by decide +kernel
theorem dX12_init_337 : decode cX12_init 337 = .ok (.newarray .int, 2) := by decide +kernel
theorem dX12_init_339 : decode cX12_init 339 = .ok (.putfield 133, 3) := by decide +kernel
theorem dX12_init_342 : decode cX12_init 342 = .ok (.aload_n 0, 1) := by decide +kernel
theorem dX12_init_343 : decode cX12_init 343 = .ok (.sipush 430, 3) := by decide +kernel
theorem dX12_init_346 : decode cX12_init 346 = .ok (.newarray .int, 2) := by decide +kernel
theorem dX12_init_348 : decode cX12_init 348 = .ok (.putfield 136, 3) := by decide +kernel
theorem dX12_init_351 : decode cX12_init 351 = .ok (.aload_n 0, 1) := by decide +kernel
theorem dX12_init_352 : decode cX12_init 352 = .ok (.bipush 40, 2) := by decide +kernel
theorem dX12_init_354 : decode cX12_init 354 = .ok (.newarray .int, 2) := by decide +kernel
theorem dX12_init_356 : decode cX12_init 356 = .ok (.putfield 139, 3) := by decide +kernel
theorem dX12_init_359 : decode cX12_init 359 = .ok (.aload_n 0, 1) := by decide +kernel
theorem dX12_init_360 : decode cX12_init 360 = .ok (.bipush 40, 2) := by decide +kernel
theorem dX12_init_362 : decode cX12_init 362 = .ok (.newarray .int, 2) := by decide +kernel
theorem dX12_init_364 : decode cX12_init 364 = .ok (.putfield 142, 3) := by decide +kernel
theorem dX12_init_367 : decode cX12_init 367 = .ok (.aload_n 0, 1) := by decide +kernel
theorem dX12_init_368 : decode cX12_init 368 = .ok (.bipush 60, 2) := by decide +kernel
theorem dX12_init_370 : decode cX12_init 370 = .ok (.newarray .int, 2) := by decide +kernel
theorem dX12_init_372 : decode cX12_init 372 = .ok (.putfield 145, 3) := by decide +kernel
theorem dX12_init_375 : decode cX12_init 375 = .ok (.aload_n 0, 1) := by decide +kernel
theorem dX12_init_376 : decode cX12_init 376 = .ok (.bipush 6, 2) := by decide +kernel
theorem dX12_init_378 : decode cX12_init 378 = .ok (.newarray .int, 2) := by decide +kernel
theorem dX12_init_380 : decode cX12_init 380 = .ok (.putfield 148, 3) := by decide +kernel
theorem dX12_init_383 : decode cX12_init 383 = .ok (.aload_n 0, 1) := by decide +kernel
theorem dX12_init_384 : decode cX12_init 384 = .ok (.bipush 6, 2) := by decide +kernel
theorem dX12_init_386 : decode cX12_init 386 = .ok (.newarray .int, 2) := by decide +kernel
theorem dX12_init_388 : decode cX12_init 388 = .ok (.putfield 151, 3) := by decide +kernel
theorem dX12_init_391 : decode cX12_init 391 = .ok (.aload_n 0, 1) := by decide +kernel
theorem dX12_init_392 : decode cX12_init 392 = .ok (.bipush 6, 2) := by decide +kernel
theorem dX12_init_394 : decode cX12_init 394 = .ok (.newarray .int, 2) := by decide +kernel
theorem dX12_init_396 : decode cX12_init 396 = .ok (.putfield 154, 3) := by decide +kernel
theorem dX12_init_399 : decode cX12_init 399 = .ok (.aload_n 0, 1) := by decide +kernel
theorem dX12_init_400 : decode cX12_init 400 = .ok (.bipush 6, 2) := by decide +kernel
theorem dX12_init_402 : decode cX12_init 402 = .ok (.newarray .int, 2) := by decide +kernel
theorem dX12_init_404 : decode cX12_init 404 = .ok (.putfield 157, 3) := by decide +kernel
theorem dX12_init_407 : decode cX12_init 407 = .ok (.aload_n 0, 1) := by decide +kernel
theorem dX12_init_408 : decode cX12_init 408 = .ok (.sipush 200, 3) := by decide +kernel
theorem dX12_init_411 : decode cX12_init 411 = .ok (.newarray .int, 2) := by decide +kernel
theorem dX12_init_413 : decode cX12_init 413 = .ok (.putfield 160, 3) := by decide +kernel
theorem dX12_init_416 : decode cX12_init 416 = .ok (.aload_n 0, 1) := by decide +kernel
theorem dX12_init_417 : decode cX12_init 417 = .ok (.sipush 200, 3) := by decide +kernel
theorem dX12_init_420 : decode cX12_init 420 = .ok (.newarray .int, 2) := by decide +kernel
theorem dX12_init_422 : decode cX12_init 422 = .ok (.putfield 163, 3) := by decide +kernel
theorem dX12_init_425 : decode cX12_init 425 = .ok (.aload_n 0, 1) := by decide +kernel
theorem dX12_init_426 : decode cX12_init 426 = .ok (.sipush 200, 3) := by decide +kernel
theorem dX12_init_429 : decode cX12_init 429 = .ok (.newarray .int, 2) := by decide +kernel
theorem dX12_init_431 : decode cX12_init 431 = .ok (.putfield 166, 3) := by decide +kernel
theorem dX12_init_434 : decode cX12_init 434 = .ok (.aload_n 0, 1) := by decide +kernel
theorem dX12_init_435 : decode cX12_init 435 = .ok (.bipush 24, 2) := by decide +kernel
theorem dX12_init_437 : decode cX12_init 437 = .ok (.newarray .int, 2) := by decide +kernel
theorem dX12_init_439 : decode cX12_init 439 = .ok (.putfield 169, 3) := by decide +kernel
theorem dX12_init_442 : decode cX12_init 442 = .ok (.aload_n 0, 1) := by decide +kernel
theorem dX12_init_443 : decode cX12_init 443 = .ok (.sipush 240, 3) := by decide +kernel
theorem dX12_init_446 : decode cX12_init 446 = .ok (.newarray .int, 2) := by decide +kernel
theorem dX12_init_448 : decode cX12_init 448 = .ok (.putfield 172, 3) := by decide +kernel
theorem dX12_init_451 : decode cX12_init 451 = .ok (.aload_n 0, 1) := by decide +kernel
theorem dX12_init_452 : decode cX12_init 452 = .ok (.sipush 240, 3) := by decide +kernel
theorem dX12_init_455 : decode cX12_init 455 = .ok (.newarray .int, 2) := by decide +kernel
theorem dX12_init_457 : decode cX12_init 457 = .ok (.putfield 175, 3) := by decide +kernel
theorem dX12_init_460 : decode cX12_init 460 = .ok (.aload_n 0, 1) := by decide +kernel
theorem dX12_init_461 : decode cX12_init 461 = .ok (.sipush 240, 3) := by decide +kernel
theorem dX12_init_464 : decode cX12_init 464 = .ok (.newarray .int, 2) := by decide +kernel
theorem dX12_init_466 : decode cX12_init 466 = .ok (.putfield 178, 3) := by decide +kernel
theorem dX12_init_469 : decode cX12_init 469 = .ok (.aload_n 0, 1) := by decide +kernel
theorem dX12_init_470 : decode cX12_init 470 = .ok (.sipush 500, 3) := by decide +kernel
theorem dX12_init_473 : decode cX12_init 473 = .ok (.newarray .int, 2) := by decide +kernel
theorem dX12_init_475 : decode cX12_init 475 = .ok (.putfield 181, 3) := by decide +kernel
theorem dX12_init_478 : decode cX12_init 478 = .ok (.aload_n 0, 1) := by decide +kernel
theorem dX12_init_479 : decode cX12_init 479 = .ok (.bipush 40, 2) := by decide +kernel
theorem dX12_init_481 : decode cX12_init 481 = .ok (.newarray .int, 2) := by decide +kernel
theorem dX12_init_483 : decode cX12_init 483 = .ok (.putfield 184, 3) := by decide +kernel
theorem dX12_init_486 : decode cX12_init 486 = .ok (.aload_n 0, 1) := by decide +kernel
theorem dX12_init_487 : decode cX12_init 487 = .ok (.bipush 40, 2) := by decide +kernel
theorem dX12_init_489 : decode cX12_init 489 = .ok (.newarray .int, 2) := by decide +kernel
theorem dX12_init_491 : decode cX12_init 491 = .ok (.putfield 187, 3) := by decide +kernel
theorem dX12_init_494 : decode cX12_init 494 = .ok (.aload_n 0, 1) := by decide +kernel
theorem dX12_init_495 : decode cX12_init 495 = .ok (.sipush 200, 3) := by decide +kernel
theorem dX12_init_498 : decode cX12_init 498 = .ok (.newarray .int, 2) := by decide +kernel
theorem dX12_init_500 : decode cX12_init 500 = .ok (.putfield 190, 3) := by decide +kernel
theorem dX12_init_503 : decode cX12_init 503 = .ok (.aload_n 0, 1) := by decide +kernel
theorem dX12_init_504 : decode cX12_init 504 = .ok (.sipush 200, 3) := by decide +kernel
theorem dX12_init_507 : decode cX12_init 507 = .ok (.newarray .int, 2) := by decide +kernel
theorem dX12_init_509 : decode cX12_init 509 = .ok (.putfield 193, 3) := by decide +kernel
theorem dX12_init_512 : decode cX12_init 512 = .ok (.aload_n 0, 1) := by decide +kernel
theorem dX12_init_513 : decode cX12_init 513 = .ok (.sipush 240, 3) := by decide +kernel
theorem dX12_init_516 : decode cX12_init 516 = .ok (.newarray .int, 2) := by decide +kernel
theorem dX12_init_518 : decode cX12_init 518 = .ok (.putfield 196, 3) := by decide +kernel
theorem dX12_init_521 : decode cX12_init 521 = .ok (.aload_n 0, 1) := by decide +kernel
theorem dX12_init_522 : decode cX12_init 522 = .ok (.sipush 240, 3) := by decide +kernel
theorem dX12_init_525 : decode cX12_init 525 = .ok (.newarray .int, 2) := by decide +kernel
theorem dX12_init_527 : decode cX12_init 527 = .ok (.putfield 199, 3) := by decide +kernel
theorem dX12_init_530 : decode cX12_init 530 = .ok (.aload_n 0, 1) := by decide +kernel
theorem dX12_init_531 : decode cX12_init 531 = .ok (.sipush 240, 3) := by decide +kernel
theorem dX12_init_534 : decode cX12_init 534 = .ok (.newarray .boolean, 2) := by decide +kernel
theorem dX12_init_536 : decode cX12_init 536 = .ok (.putfield 202, 3) := by decide +kernel
theorem dX12_init_539 : decode cX12_init 539 = .ok (.aload_n 0, 1) := by decide +kernel
theorem dX12_init_540 : decode cX12_init 540 = .ok (.sipush 4000, 3) := by decide +kernel
theorem dX12_init_543 : decode cX12_init 543 = .ok (.newarray .int, 2) := by decide +kernel
theorem dX12_init_545 : decode cX12_init 545 = .ok (.putfield 205, 3) := by decide +kernel
theorem dX12_init_548 : decode cX12_init 548 = .ok (.aload_n 0, 1) := by decide +kernel
theorem dX12_init_549 : decode cX12_init 549 = .ok (.sipush 4000, 3) := by decide +kernel
theorem dX12_init_552 : decode cX12_init 552 = .ok (.newarray .int, 2) := by decide +kernel
theorem dX12_init_554 : decode cX12_init 554 = .ok (.putfield 208, 3) := by decide +kernel
theorem dX12_init_557 : decode cX12_init 557 = .ok (.aload_n 0, 1) := by decide +kernel
theorem dX12_init_558 : decode cX12_init 558 = .ok (.sipush 4000, 3) := by decide +kernel
theorem dX12_init_561 : decode cX12_init 561 = .ok (.newarray .int, 2) := by decide +kernel
theorem dX12_init_563 : decode cX12_init 563 = .ok (.putfield 211, 3) := by decide +kernel
theorem dX12_init_566 : decode cX12_init 566 = .ok (.aload_n 0, 1) := by decide +kernel
theorem dX12_init_567 : decode cX12_init 567 = .ok (.sipush 4000, 3) := by decide +kernel
theorem dX12_init_570 : decode cX12_init 570 = .ok (.newarray .long, 2) := by decide +kernel
theorem dX12_init_572 : decode cX12_init 572 = .ok (.putfield 214, 3) := by decide +kernel
theorem dX12_init_575 : decode cX12_init 575 = .ok (.aload_n 0, 1) := by decide +kernel
theorem dX12_init_576 : decode cX12_init 576 = .ok (.sipush 4000, 3) := by decide +kernel
theorem dX12_init_579 : decode cX12_init 579 = .ok (.newarray .int, 2) := by decide +kernel
theorem dX12_init_581 : decode cX12_init 581 = .ok (.putfield 218, 3) := by decide +kernel
theorem dX12_init_584 : decode cX12_init 584 = .ok (.aload_n 0, 1) := by decide +kernel
theorem dX12_init_585 : decode cX12_init 585 = .ok (.sipush 4000, 3) := by decide +kernel
theorem dX12_init_588 : decode cX12_init 588 = .ok (.newarray .int, 2) := by decide +kernel
theorem dX12_init_590 : decode cX12_init 590 = .ok (.putfield 221, 3) := by decide +kernel
theorem dX12_init_593 : decode cX12_init 593 = .ok (.aload_n 0, 1) := by decide +kernel
theorem dX12_init_594 : decode cX12_init 594 = .ok (.sipush 4000, 3) := by decide +kernel
theorem dX12_init_597 : decode cX12_init 597 = .ok (.newarray .int, 2) := by decide +kernel
theorem dX12_init_599 : decode cX12_init 599 = .ok (.putfield 224, 3) := by decide +kernel
theorem dX12_init_602 : decode cX12_init 602 = .ok (.aload_n 0, 1) := by decide +kernel
theorem dX12_init_603 : decode cX12_init 603 = .ok (.sipush 4000, 3) := by decide +kernel
theorem dX12_init_606 : decode cX12_init 606 = .ok (.newarray .int, 2) := by decide +kernel
theorem dX12_init_608 : decode cX12_init 608 = .ok (.putfield 227, 3) := by decide +kernel
theorem dX12_init_611 : decode cX12_init 611 = .ok (.aload_n 0, 1) := by decide +kernel
theorem dX12_init_612 : decode cX12_init 612 = .ok (.sipush 240, 3) := by decide +kernel
theorem dX12_init_615 : decode cX12_init 615 = .ok (.newarray .int, 2) := by decide +kernel
theorem dX12_init_617 : decode cX12_init 617 = .ok (.putfield 230, 3) := by decide +kernel
theorem dX12_init_620 : decode cX12_init 620 = .ok (.aload_n 0, 1) := by decide +kernel
theorem dX12_init_621 : decode cX12_init 621 = .ok (.bipush 10, 2) := by decide +kernel
theorem dX12_init_623 : decode cX12_init 623 = .ok (.newarray .int, 2) := by decide +kernel
theorem dX12_init_625 : decode cX12_init 625 = .ok (.putfield 233, 3) := by decide +kernel
theorem dX12_init_628 : decode cX12_init 628 = .ok (.aload_n 0, 1) := by decide +kernel
theorem dX12_init_629 : decode cX12_init 629 = .ok (.sipush 4000, 3) := by decide +kernel
theorem dX12_init_632 : decode cX12_init 632 = .ok (.newarray .int, 2) := by decide +kernel
theorem dX12_init_634 : decode cX12_init 634 = .ok (.putfield 236, 3) := by decide +kernel
theorem dX12_init_637 : decode cX12_init 637 = .ok (.aload_n 0, 1) := by decide +kernel
theorem dX12_init_638 : decode cX12_init 638 = .ok (.sipush 4000, 3) := by decide +kernel
theorem dX12_init_641 : decode cX12_init 641 = .ok (.newarray .int, 2) := by decide +kernel
theorem dX12_init_643 : decode cX12_init 643 = .ok (.putfield 239, 3) := by decide +kernel
theorem dX12_init_646 : decode cX12_init 646 = .ok (.aload_n 0, 1) := by decide +kernel
theorem dX12_init_647 : decode cX12_init 647 = .ok (.sipush 4000, 3) := by decide +kernel
theorem dX12_init_650 : decode cX12_init 650 = .ok (.newarray .int, 2) := by decide +kernel
theorem dX12_init_652 : decode cX12_init 652 = .ok (.putfield 242, 3) := by decide +kernel
theorem dX12_init_655 : decode cX12_init 655 = .ok (.aload_n 0, 1) := by decide +kernel
theorem dX12_init_656 : decode cX12_init 656 = .ok (.sipush 4000, 3) := by decide +kernel
theorem dX12_init_659 : decode cX12_init 659 = .ok (.newarray .long, 2) := by decide +kernel
theorem dX12_init_661 : decode cX12_init 661 = .ok (.putfield 245, 3) := by decide +kernel
theorem dX12_init_664 : decode cX12_init 664 = .ok (.aload_n 0, 1) := by decide +kernel
theorem dX12_init_665 : decode cX12_init 665 = .ok (.sipush 240, 3) := by decide +kernel
theorem dX12_init_668 : decode cX12_init 668 = .ok (.newarray .int, 2) := by decide +kernel
theorem dX12_init_670 : decode cX12_init 670 = .ok (.putfield 248, 3) := by decide +kernel
theorem dX12_init_673 : decode cX12_init 673 = .ok (.aload_n 0, 1) := by decide +kernel
theorem dX12_init_674 : decode cX12_init 674 = .ok (.sipush 11000, 3) := by decide +kernel
theorem dX12_init_677 : decode cX12_init 677 = .ok (.newarray .int, 2) := by decide +kernel
theorem dX12_init_679 : decode cX12_init 679 = .ok (.putfield 251, 3) := by decide +kernel
theorem dX12_init_682 : decode cX12_init 682 = .ok (.aload_n 0, 1) := by decide +kernel
theorem dX12_init_683 : decode cX12_init 683 = .ok (.ldc 254, 2) := by decide +kernel
theorem dX12_init_685 : decode cX12_init 685 = .ok (.newarray .int, 2) := by decide +kernel
theorem dX12_init_687 : decode cX12_init 687 = .ok (.putfield 255, 3) := by decide +kernel
theorem dX12_init_690 : decode cX12_init 690 = .ok (.aload_n 0, 1) := by decide +kernel
theorem dX12_init_691 : decode cX12_init 691 = .ok (.bipush 40, 2) := by decide +kernel
theorem dX12_init_693 : decode cX12_init 693 = .ok (.newarray .int, 2) := by decide +kernel
theorem dX12_init_695 : decode cX12_init 695 = .ok (.putfield 258, 3) := by decide +kernel
theorem dX12_init_698 : decode cX12_init 698 = .ok (.aload_n 0, 1) := by decide +kernel
theorem dX12_init_699 : decode cX12_init 699 = .ok (.ldc_w 261, 3) := by decide +kernel
theorem dX12_init_702 : decode cX12_init 702 = .ok (.newarray .int, 2) := by decide +kernel
theorem dX12_init_704 : decode cX12_init 704 = .ok (.putfield 262, 3) := by decide +kernel
theorem dX12_init_707 : decode cX12_init 707 = .ok (.aload_n 0, 1) := by decide +kernel
theorem dX12_init_708 : decode cX12_init 708 = .ok (.bipush 40, 2) := by decide +kernel
theorem dX12_init_710 : decode cX12_init 710 = .ok (.newarray .int, 2) := by decide +kernel
theorem dX12_init_712 : decode cX12_init 712 = .ok (.putfield 265, 3) := by decide +kernel
theorem dX12_init_715 : decode cX12_init 715 = .ok (.aload_n 0, 1) := by decide +kernel
theorem dX12_init_716 : decode cX12_init 716 = .ok (.bipush 40, 2) := by decide +kernel
theorem dX12_init_718 : decode cX12_init 718 = .ok (.newarray .int, 2) := by decide +kernel
theorem dX12_init_720 : decode cX12_init 720 = .ok (.putfield 268, 3) := by decide +kernel
theorem dX12_init_723 : decode cX12_init 723 = .ok (.iconst 0, 1) := by decide +kernel
theorem dX12_init_724 : decode cX12_init 724 = .ok (.istore_n 1, 1) := by decide +kernel
theorem dX12_init_725 : decode cX12_init 725 = .ok (.iload_n 1, 1) := by decide +kernel
theorem dX12_init_726 : decode cX12_init 726 = .ok (.sipush 240, 3) := by decide +kernel
theorem dX12_init_729 : decode cX12_init 729 = .ok (.if_icmp .ge 17, 3) := by decide +kernel
theorem dX12_init_732 : decode cX12_init 732 = .ok (.aload_n 0, 1) := by decide +kernel
theorem dX12_init_733 : decode cX12_init 733 = .ok (.getfield 43, 3) := by decide +kernel
theorem dX12_init_736 : decode cX12_init 736 = .ok (.iload_n 1, 1) := by decide +kernel
theorem dX12_init_737 : decode cX12_init 737 = .ok (.bipush (-2), 2) := by decide +kernel
theorem dX12_init_739 : decode cX12_init 739 = .ok (.iastore, 1) := by decide +kernel
theorem dX12_init_740 : decode cX12_init 740 = .ok (.iinc 1 1, 3) := by decide +kernel
theorem dX12_init_743 : decode cX12_init 743 = .ok (.goto (-18), 3) := by decide +kernel
theorem dX12_init_746 : decode cX12_init 746 = .ok (.iconst 0, 1) := by decide +kernel
theorem dX12_init_747 : decode cX12_init 747 = .ok (.istore_n 1, 1) := by decide +kernel
theorem dX12_init_748 : decode cX12_init 748 = .ok (.iload_n 1, 1) := by decide +kernel
theorem dX12_init_749 : decode cX12_init 749 = .ok (.sipush 400, 3) := by decide +kernel
theorem dX12_init_752 : decode cX12_init 752 = .ok (.if_icmp .ge 16, 3) := by decide +kernel
theorem dX12_init_755 : decode cX12_init 755 = .ok (.aload_n 0, 1) := by decide +kernel
theorem dX12_init_756 : decode cX12_init 756 = .ok (.getfield 46, 3) := by decide +kernel
theorem dX12_init_759 : decode cX12_init 759 = .ok (.iload_n 1, 1) := by decide +kernel
theorem dX12_init_760 : decode cX12_init 760 = .ok (.iconst (-1), 1) := by decide +kernel
theorem dX12_init_761 : decode cX12_init 761 = .ok (.iastore, 1) := by decide +kernel
theorem dX12_init_762 : decode cX12_init 762 = .ok (.iinc 1 1, 3) := by decide +kernel
theorem dX12_init_765 : decode cX12_init 765 = .ok (.goto (-17), 3) := by decide +kernel
theorem dX12_init_768 : decode cX12_init 768 = .ok (.return_, 1) := by decide +kernel
theorem dX12_thrown_0 : decode cX12_thrown 0 = .ok (.aload_n 0, 1) := by decide +kernel
theorem dX12_thrown_1 : decode cX12_thrown 1 = .ok (.getfield 271, 3) := by decide +kernel
theorem dX12_thrown_4 : decode cX12_thrown 4 = .ok (.ireturn, 1) := by decide +kernel
theorem dX12_in_0 : decode cX12_in 0 = .ok (.iload_n 0, 1) := by decide +kernel
theorem dX12_in_1 : decode cX12_in 1 = .ok (.iload_n 1, 1) := by decide +kernel
theorem dX12_in_2 : decode cX12_in 2 = .ok (.if_icmp .lt 12, 3) := by decide +kernel
theorem dX12_in_5 : decode cX12_in 5 = .ok (.iload_n 0, 1) := by decide +kernel
theorem dX12_in_6 : decode cX12_in 6 = .ok (.iload_n 2, 1) := by decide +kernel
theorem dX12_in_7 : decode cX12_in 7 = .ok (.if_icmp .gt 7, 3) := by decide +kernel
theorem dX12_in_10 : decode cX12_in 10 = .ok (.iconst 1, 1) := by decide +kernel
theorem dX12_in_11 : decode cX12_in 11 = .ok (.goto 4, 3) := by decide +kernel
theorem dX12_in_14 : decode cX12_in 14 = .ok (.iconst 0, 1) := by decide +kernel
theorem dX12_in_15 : decode cX12_in 15 = .ok (.ireturn, 1) := by decide +kernel
theorem dX12_goes_0 : decode cX12_goes 0 = .ok (.aload_n 0, 1) := by decide +kernel
theorem dX12_goes_1 : decode cX12_goes 1 = .ok (.iload_n 1, 1) := by decide +kernel
theorem dX12_goes_2 : decode cX12_goes 2 = .ok (.ifCond .ne 7, 3) := by decide +kernel
theorem dX12_goes_5 : decode cX12_goes 5 = .ok (.iconst 1, 1) := by decide +kernel
theorem dX12_goes_6 : decode cX12_goes 6 = .ok (.goto 20, 3) := by decide +kernel
theorem dX12_goes_9 : decode cX12_goes 9 = .ok (.iload_n 2, 1) := by decide +kernel
theorem dX12_goes_10 : decode cX12_goes 10 = .ok (.ifCond .ne 7, 3) := by decide +kernel
theorem dX12_goes_13 : decode cX12_goes 13 = .ok (.iconst 2, 1) := by decide +kernel
theorem dX12_goes_14 : decode cX12_goes 14 = .ok (.goto 12, 3) := by decide +kernel
theorem dX12_goes_17 : decode cX12_goes 17 = .ok (.iload_n 3, 1) := by decide +kernel
theorem dX12_goes_18 : decode cX12_goes 18 = .ok (.ifCond .ne 7, 3) := by decide +kernel
theorem dX12_goes_21 : decode cX12_goes 21 = .ok (.iconst 3, 1) := by decide +kernel
theorem dX12_goes_22 : decode cX12_goes 22 = .ok (.goto 4, 3) := by decide +kernel
theorem dX12_goes_25 : decode cX12_goes 25 = .ok (.iconst 0, 1) := by decide +kernel
theorem dX12_goes_26 : decode cX12_goes 26 = .ok (.putfield 271, 3) := by decide +kernel
theorem dX12_goes_29 : decode cX12_goes 29 = .ok (.aload_n 0, 1) := by decide +kernel
theorem dX12_goes_30 : decode cX12_goes 30 = .ok (.getfield 271, 3) := by decide +kernel
theorem dX12_goes_33 : decode cX12_goes 33 = .ok (.ifCond .ne 7, 3) := by decide +kernel
theorem dX12_goes_36 : decode cX12_goes 36 = .ok (.iconst 1, 1) := by decide +kernel
theorem dX12_goes_37 : decode cX12_goes 37 = .ok (.goto 4, 3) := by decide +kernel
theorem dX12_goes_40 : decode cX12_goes 40 = .ok (.iconst 0, 1) := by decide +kernel
theorem dX12_goes_41 : decode cX12_goes 41 = .ok (.ireturn, 1) := by decide +kernel
theorem dX12_tells_0 : decode cX12_tells 0 = .ok (.aload_n 0, 1) := by decide +kernel
theorem dX12_tells_1 : decode cX12_tells 1 = .ok (.iconst 0, 1) := by decide +kernel
theorem dX12_tells_2 : decode cX12_tells 2 = .ok (.putfield 271, 3) := by decide +kernel
theorem dX12_tells_5 : decode cX12_tells 5 = .ok (.iload_n 1, 1) := by decide +kernel
theorem dX12_tells_6 : decode cX12_tells 6 = .ok (.ireturn, 1) := by decide +kernel
theorem dX12_isType_0 : decode cX12_isType 0 = .ok (.iload_n 1, 1) := by decide +kernel
theorem dX12_isType_1 : decode cX12_isType 1 = .ok (.iconst 0, 1) := by decide +kernel
theorem dX12_isType_2 : decode cX12_isType 2 = .ok (.aload_n 0, 1) := by decide +kernel
theorem dX12_isType_3 : decode cX12_isType 3 = .ok (.getfield 275, 3) := by decide +kernel
theorem dX12_isType_6 : decode cX12_isType 6 = .ok (.iconst 1, 1) := by decide +kernel
theorem dX12_isType_7 : decode cX12_isType 7 = .ok (.isub, 1) := by decide +kernel
theorem dX12_isType_8 : decode cX12_isType 8 = .ok (.invokestatic 278, 3) := by decide +kernel
theorem dX12_isType_11 : decode cX12_isType 11 = .ok (.ireturn, 1) := by decide +kernel
theorem dX12_isExpression_0 : decode cX12_isExpression 0 = .ok (.iload_n 1, 1) := by decide +kernel
theorem dX12_isExpression_1 : decode cX12_isExpression 1 = .ok (.iconst 0, 1) := by decide +kernel
theorem dX12_isExpression_2 : decode cX12_isExpression 2 = .ok (.aload_n 0, 1) := by decide +kernel
theorem dX12_isExpression_3 : decode cX12_isExpression 3 = .ok (.getfield 282, 3) := by decide +kernel
theorem dX12_isExpression_6 : decode cX12_isExpression 6 = .ok (.iconst 1, 1) := by decide +kernel
theorem dX12_isExpression_7 : decode cX12_isExpression 7 = .ok (.isub, 1) := by decide +kernel
theorem dX12_isExpression_8 : decode cX12_isExpression 8 = .ok (.invokestatic 278, 3) := by decide +kernel
theorem dX12_isExpression_11 : decode cX12_isExpression 11 = .ok (.ireturn, 1) := by decide +kernel
theorem dX12_isUnit_0 : decode cX12_isUnit 0 = .ok (.iload_n 1, 1) := by decide +kernel
theorem dX12_isUnit_1 : decode cX12_isUnit 1 = .ok (.iconst 0, 1) := by decide +kernel
theorem dX12_isUnit_2 : decode cX12_isUnit 2 = .ok (.aload_n 0, 1) := by decide +kernel
theorem dX12_isUnit_3 : decode cX12_isUnit 3 = .ok (.getfield 285, 3) := by decide +kernel
theorem dX12_isUnit_6 : decode cX12_isUnit 6 = .ok (.iconst 1, 1) := by decide +kernel
theorem dX12_isUnit_7 : decode cX12_isUnit 7 = .ok (.isub, 1) := by decide +kernel
theorem dX12_isUnit_8 : decode cX12_isUnit 8 = .ok (.invokestatic 278, 3) := by decide +kernel
theorem dX12_isUnit_11 : decode cX12_isUnit 11 = .ok (.ireturn, 1) := by decide +kernel
theorem dX12_isNode_0 : decode cX12_isNode 0 = .ok (.iload_n 1, 1) := by decide +kernel
theorem dX12_isNode_1 : decode cX12_isNode 1 = .ok (.iconst 0, 1) := by decide +kernel
theorem dX12_isNode_2 : decode cX12_isNode 2 = .ok (.aload_n 0, 1) := by decide +kernel
theorem dX12_isNode_3 : decode cX12_isNode 3 = .ok (.getfield 288, 3) := by decide +kernel
theorem dX12_isNode_6 : decode cX12_isNode 6 = .ok (.iconst 1, 1) := by decide +kernel
theorem dX12_isNode_7 : decode cX12_isNode 7 = .ok (.isub, 1) := by decide +kernel
theorem dX12_isNode_8 : decode cX12_isNode 8 = .ok (.invokestatic 278, 3) := by decide +kernel
theorem dX12_isNode_11 : decode cX12_isNode 11 = .ok (.ireturn, 1) := by decide +kernel
theorem dX12_isName_0 : decode cX12_isName 0 = .ok (.iload_n 0, 1) := by decide +kernel
theorem dX12_isName_1 : decode cX12_isName 1 = .ok (.iconst 0, 1) := by decide +kernel
theorem dX12_isName_2 : decode cX12_isName 2 = .ok (.iconst 5, 1) := by decide +kernel
theorem dX12_isName_3 : decode cX12_isName 3 = .ok (.invokestatic 278, 3) := by decide +kernel
theorem dX12_isName_6 : decode cX12_isName 6 = .ok (.ireturn, 1) := by decide +kernel
theorem dX12_isValue_0 : decode cX12_isValue 0 = .ok (.iload_n 0, 1) := by decide +kernel
theorem dX12_isValue_1 : decode cX12_isValue 1 = .ok (.iconst 0, 1) := by decide +kernel
theorem dX12_isValue_2 : decode cX12_isValue 2 = .ok (.bipush 9, 2) := by decide +kernel
theorem dX12_isValue_4 : decode cX12_isValue 4 = .ok (.invokestatic 278, 3) := by decide +kernel
theorem dX12_isValue_7 : decode cX12_isValue 7 = .ok (.ireturn, 1) := by decide +kernel
theorem dX12_type_0 : decode cX12_type 0 = .ok (.iload_n 1, 1) := by decide +kernel
theorem dX12_type_1 : decode cX12_type 1 = .ok (.iconst 0, 1) := by decide +kernel
theorem dX12_type_2 : decode cX12_type 2 = .ok (.iconst 2, 1) := by decide +kernel
theorem dX12_type_3 : decode cX12_type 3 = .ok (.invokestatic 278, 3) := by decide +kernel
theorem dX12_type_6 : decode cX12_type 6 = .ok (.ifCond .eq 19, 3) := by decide +kernel
theorem dX12_type_9 : decode cX12_type 9 = .ok (.iload_n 1, 1) := by decide +kernel
theorem dX12_type_10 : decode cX12_type 10 = .ok (.iconst 2, 1) := by decide +kernel
theorem dX12_type_11 : decode cX12_type 11 = .ok (.if_icmp .ne 10, 3) := by decide +kernel
theorem dX12_type_14 : decode cX12_type 14 = .ok (.iload_n 2, 1) := by decide +kernel
theorem dX12_type_15 : decode cX12_type 15 = .ok (.invokestatic 291, 3) := by decide +kernel
theorem dX12_type_18 : decode cX12_type 18 = .ok (.ifCond .eq 7, 3) := by decide +kernel
theorem dX12_type_21 : decode cX12_type 21 = .ok (.iconst 1, 1) := by decide +kernel
theorem dX12_type_22 : decode cX12_type 22 = .ok (.goto 4, 3) := by decide +kernel
theorem dX12_type_25 : decode cX12_type 25 = .ok (.iconst 0, 1) := by decide +kernel
theorem dX12_type_26 : decode cX12_type 26 = .ok (.istore 4, 2) := by decide +kernel
theorem dX12_type_28 : decode cX12_type 28 = .ok (.iload_n 1, 1) := by decide +kernel
theorem dX12_type_29 : decode cX12_type 29 = .ok (.iconst 1, 1) := by decide +kernel
theorem dX12_type_30 : decode cX12_type 30 = .ok (.if_icmp .ne 19, 3) := by decide +kernel
theorem dX12_type_33 : decode cX12_type 33 = .ok (.aload_n 0, 1) := by decide +kernel
theorem dX12_type_34 : decode cX12_type 34 = .ok (.iload_n 2, 1) := by decide +kernel
theorem dX12_type_35 : decode cX12_type 35 = .ok (.invokevirtual 295, 3) := by decide +kernel
theorem dX12_type_38 : decode cX12_type 38 = .ok (.ifCond .eq 15, 3) := by decide +kernel
theorem dX12_type_41 : decode cX12_type 41 = .ok (.aload_n 0, 1) := by decide +kernel
theorem dX12_type_42 : decode cX12_type 42 = .ok (.iload_n 3, 1) := by decide +kernel
theorem dX12_type_43 : decode cX12_type 43 = .ok (.invokevirtual 295, 3) := by decide +kernel
theorem dX12_type_46 : decode cX12_type 46 = .ok (.ifCond .eq 7, 3) := by decide +kernel
theorem dX12_type_49 : decode cX12_type 49 = .ok (.iconst 1, 1) := by decide +kernel
theorem dX12_type_50 : decode cX12_type 50 = .ok (.goto 4, 3) := by decide +kernel
theorem dX12_type_53 : decode cX12_type 53 = .ok (.iconst 0, 1) := by decide +kernel
theorem dX12_type_54 : decode cX12_type 54 = .ok (.istore 5, 2) := by decide +kernel
theorem dX12_type_56 : decode cX12_type 56 = .ok (.iload 4, 2) := by decide +kernel
theorem dX12_type_58 : decode cX12_type 58 = .ok (.ifCond .eq 31, 3) := by decide +kernel
theorem dX12_type_61 : decode cX12_type 61 = .ok (.iload 5, 2) := by decide +kernel
theorem dX12_type_63 : decode cX12_type 63 = .ok (.ifCond .eq 26, 3) := by decide +kernel
theorem dX12_type_66 : decode cX12_type 66 = .ok (.iload_n 1, 1) := by decide +kernel
theorem dX12_type_67 : decode cX12_type 67 = .ok (.iconst 1, 1) := by decide +kernel
theorem dX12_type_68 : decode cX12_type 68 = .ok (.if_icmp .ne 21, 3) := by decide +kernel
theorem dX12_type_71 : decode cX12_type 71 = .ok (.iconst 1, 1) := by decide +kernel
theorem dX12_type_72 : decode cX12_type 72 = .ok (.aload_n 0, 1) := by decide +kernel
theorem dX12_type_73 : decode cX12_type 73 = .ok (.getfield 19, 3) := by decide +kernel
theorem dX12_type_76 : decode cX12_type 76 = .ok (.iload_n 2, 1) := by decide +kernel
theorem dX12_type_77 : decode cX12_type 77 = .ok (.iaload, 1) := by decide +kernel
theorem dX12_type_78 : decode cX12_type 78 = .ok (.iadd, 1) := by decide +kernel
theorem dX12_type_79 : decode cX12_type 79 = .ok (.aload_n 0, 1) := by decide +kernel
theorem dX12_type_80 : decode cX12_type 80 = .ok (.getfield 19, 3) := by decide +kernel
theorem dX12_type_83 : decode cX12_type 83 = .ok (.iload_n 3, 1) := by decide +kernel
theorem dX12_type_84 : decode cX12_type 84 = .ok (.iaload, 1) := by decide +kernel
theorem dX12_type_85 : decode cX12_type 85 = .ok (.iadd, 1) := by decide +kernel
theorem dX12_type_86 : decode cX12_type 86 = .ok (.goto 4, 3) := by decide +kernel
theorem dX12_type_89 : decode cX12_type 89 = .ok (.iconst 1, 1) := by decide +kernel
theorem dX12_type_90 : decode cX12_type 90 = .ok (.istore 6, 2) := by decide +kernel
theorem dX12_type_92 : decode cX12_type 92 = .ok (.aload_n 0, 1) := by decide +kernel
theorem dX12_type_93 : decode cX12_type 93 = .ok (.iload 4, 2) := by decide +kernel
theorem dX12_type_95 : decode cX12_type 95 = .ok (.iload 5, 2) := by decide +kernel
theorem dX12_type_97 : decode cX12_type 97 = .ok (.aload_n 0, 1) := by decide +kernel
theorem dX12_type_98 : decode cX12_type 98 = .ok (.getfield 275, 3) := by decide +kernel
theorem dX12_type_101 : decode cX12_type 101 = .ok (.bipush 60, 2) := by decide +kernel
theorem dX12_type_103 : decode cX12_type 103 = .ok (.if_icmp .ge 14, 3) := by decide +kernel
theorem dX12_type_106 : decode cX12_type 106 = .ok (.iload 6, 2) := by decide +kernel
theorem dX12_type_108 : decode cX12_type 108 = .ok (.bipush 12, 2) := by decide +kernel
theorem dX12_type_110 : decode cX12_type 110 = .ok (.if_icmp .gt 7, 3) := by decide +kernel
theorem dX12_type_113 : decode cX12_type 113 = .ok (.iconst 1, 1) := by decide +kernel
theorem dX12_type_114 : decode cX12_type 114 = .ok (.goto 4, 3) := by decide +kernel
theorem dX12_type_117 : decode cX12_type 117 = .ok (.iconst 0, 1) := by decide +kernel
theorem dX12_type_118 : decode cX12_type 118 = .ok (.invokevirtual 298, 3) := by decide +kernel
theorem dX12_type_121 : decode cX12_type 121 = .ok (.ifCond .ne 5, 3) := by decide +kernel
theorem dX12_type_124 : decode cX12_type 124 = .ok (.iconst 0, 1) := by decide +kernel
theorem dX12_type_125 : decode cX12_type 125 = .ok (.ireturn, 1) := by decide +kernel
theorem dX12_type_126 : decode cX12_type 126 = .ok (.aload_n 0, 1) := by decide +kernel
theorem dX12_type_127 : decode cX12_type 127 = .ok (.getfield 7, 3) := by decide +kernel
theorem dX12_type_130 : decode cX12_type 130 = .ok (.aload_n 0, 1) := by decide +kernel
theorem dX12_type_131 : decode cX12_type 131 = .ok (.getfield 275, 3) := by decide +kernel
theorem dX12_type_134 : decode cX12_type 134 = .ok (.iload_n 1, 1) := by decide +kernel
theorem dX12_type_135 : decode cX12_type 135 = .ok (.iastore, 1) := by decide +kernel
theorem dX12_type_136 : decode cX12_type 136 = .ok (.aload_n 0, 1) := by decide +kernel
theorem dX12_type_137 : decode cX12_type 137 = .ok (.getfield 13, 3) := by decide +kernel
theorem dX12_type_140 : decode cX12_type 140 = .ok (.aload_n 0, 1) := by decide +kernel
theorem dX12_type_141 : decode cX12_type 141 = .ok (.getfield 275, 3) := by decide +kernel
theorem dX12_type_144 : decode cX12_type 144 = .ok (.iload_n 1, 1) := by decide +kernel
theorem dX12_type_145 : decode cX12_type 145 = .ok (.ifCond .ne 7, 3) := by decide +kernel
theorem dX12_type_148 : decode cX12_type 148 = .ok (.iconst 0, 1) := by decide +kernel
theorem dX12_type_149 : decode cX12_type 149 = .ok (.goto 4, 3) := by decide +kernel
theorem dX12_type_152 : decode cX12_type 152 = .ok (.iload_n 2, 1) := by decide +kernel
theorem dX12_type_153 : decode cX12_type 153 = .ok (.iastore, 1) := by decide +kernel
theorem dX12_type_154 : decode cX12_type 154 = .ok (.aload_n 0, 1) := by decide +kernel
theorem dX12_type_155 : decode cX12_type 155 = .ok (.getfield 16, 3) := by decide +kernel
theorem dX12_type_158 : decode cX12_type 158 = .ok (.aload_n 0, 1) := by decide +kernel
theorem dX12_type_159 : decode cX12_type 159 = .ok (.getfield 275, 3) := by decide +kernel
theorem dX12_type_162 : decode cX12_type 162 = .ok (.iload_n 1, 1) := by decide +kernel
theorem dX12_type_163 : decode cX12_type 163 = .ok (.iconst 1, 1) := by decide +kernel
theorem dX12_type_164 : decode cX12_type 164 = .ok (.if_icmp .ne 7, 3) := by decide +kernel
theorem dX12_type_167 : decode cX12_type 167 = .ok (.iload_n 3, 1) := by decide +kernel
theorem dX12_type_168 : decode cX12_type 168 = .ok (.goto 4, 3) := by decide +kernel
theorem dX12_type_171 : decode cX12_type 171 = .ok (.iconst 0, 1) := by decide +kernel
theorem dX12_type_172 : decode cX12_type 172 = .ok (.iastore, 1) := by decide +kernel
theorem dX12_type_173 : decode cX12_type 173 = .ok (.aload_n 0, 1) := by decide +kernel
theorem dX12_type_174 : decode cX12_type 174 = .ok (.getfield 19, 3) := by decide +kernel
theorem dX12_type_177 : decode cX12_type 177 = .ok (.aload_n 0, 1) := by decide +kernel
theorem dX12_type_178 : decode cX12_type 178 = .ok (.getfield 275, 3) := by decide +kernel
theorem dX12_type_181 : decode cX12_type 181 = .ok (.iload 6, 2) := by decide +kernel
theorem dX12_type_183 : decode cX12_type 183 = .ok (.iastore, 1) := by decide +kernel
theorem dX12_type_184 : decode cX12_type 184 = .ok (.aload_n 0, 1) := by decide +kernel
theorem dX12_type_185 : decode cX12_type 185 = .ok (.getfield 22, 3) := by decide +kernel
theorem dX12_type_188 : decode cX12_type 188 = .ok (.aload_n 0, 1) := by decide +kernel
theorem dX12_type_189 : decode cX12_type 189 = .ok (.getfield 275, 3) := by decide +kernel
theorem dX12_type_192 : decode cX12_type 192 = .ok (.iload_n 1, 1) := by decide +kernel
theorem dX12_type_193 : decode cX12_type 193 = .ok (.iconst 2, 1) := by decide +kernel
theorem dX12_type_194 : decode cX12_type 194 = .ok (.if_icmp .ne 9, 3) := by decide +kernel
theorem dX12_type_197 : decode cX12_type 197 = .ok (.iconst 1, 1) := by decide +kernel
theorem dX12_type_198 : decode cX12_type 198 = .ok (.iload_n 2, 1) := by decide +kernel
theorem dX12_type_199 : decode cX12_type 199 = .ok (.ishl, 1) := by decide +kernel
theorem dX12_type_200 : decode cX12_type 200 = .ok (.goto 25, 3) := by decide +kernel
theorem dX12_type_203 : decode cX12_type 203 = .ok (.iload_n 1, 1) := by decide +kernel
theorem dX12_type_204 : decode cX12_type 204 = .ok (.iconst 1, 1) := by decide +kernel
theorem dX12_type_205 : decode cX12_type 205 = .ok (.if_icmp .ne 19, 3) := by decide +kernel
theorem dX12_type_208 : decode cX12_type 208 = .ok (.aload_n 0, 1) := by decide +kernel
theorem dX12_type_209 : decode cX12_type 209 = .ok (.getfield 22, 3) := by decide +kernel
theorem dX12_type_212 : decode cX12_type 212 = .ok (.iload_n 2, 1) := by decide +kernel
theorem dX12_type_213 : decode cX12_type 213 = .ok (.iaload, 1) := by decide +kernel
theorem dX12_type_214 : decode cX12_type 214 = .ok (.aload_n 0, 1) := by decide +kernel
theorem dX12_type_215 : decode cX12_type 215 = .ok (.getfield 22, 3) := by decide +kernel
theorem dX12_type_218 : decode cX12_type 218 = .ok (.iload_n 3, 1) := by decide +kernel
theorem dX12_type_219 : decode cX12_type 219 = .ok (.iaload, 1) := by decide +kernel
theorem dX12_type_220 : decode cX12_type 220 = .ok (.ior, 1) := by decide +kernel
theorem dX12_type_221 : decode cX12_type 221 = .ok (.goto 4, 3) := by decide +kernel
theorem dX12_type_224 : decode cX12_type 224 = .ok (.iconst 0, 1) := by decide +kernel
theorem dX12_type_225 : decode cX12_type 225 = .ok (.iastore, 1) := by decide +kernel
theorem dX12_type_226 : decode cX12_type 226 = .ok (.aload_n 0, 1) := by decide +kernel
theorem dX12_type_227 : decode cX12_type 227 = .ok (.dup, 1) := by decide +kernel
theorem dX12_type_228 : decode cX12_type 228 = .ok (.getfield 275, 3) := by decide +kernel
theorem dX12_type_231 : decode cX12_type 231 = .ok (.iconst 1, 1) := by decide +kernel
theorem dX12_type_232 : decode cX12_type 232 = .ok (.iadd, 1) := by decide +kernel
theorem dX12_type_233 : decode cX12_type 233 = .ok (.putfield 275, 3) := by decide +kernel
theorem dX12_type_236 : decode cX12_type 236 = .ok (.aload_n 0, 1) := by decide +kernel
theorem dX12_type_237 : decode cX12_type 237 = .ok (.getfield 275, 3) := by decide +kernel
theorem dX12_type_240 : decode cX12_type 240 = .ok (.iconst 1, 1) := by decide +kernel
theorem dX12_type_241 : decode cX12_type 241 = .ok (.isub, 1) := by decide +kernel
theorem dX12_type_242 : decode cX12_type 242 = .ok (.ireturn, 1) := by decide +kernel
theorem dX12_made_0 : decode cX12_made 0 = .ok (.aload_n 0, 1) := by decide +kernel
theorem dX12_made_1 : decode cX12_made 1 = .ok (.getfield 25, 3) := by decide +kernel
theorem dX12_made_4 : decode cX12_made 4 = .ok (.aload_n 0, 1) := by decide +kernel
theorem dX12_made_5 : decode cX12_made 5 = .ok (.getfield 282, 3) := by decide +kernel
theorem dX12_made_8 : decode cX12_made 8 = .ok (.iload_n 1, 1) := by decide +kernel
theorem dX12_made_9 : decode cX12_made 9 = .ok (.iastore, 1) := by decide +kernel
theorem dX12_made_10 : decode cX12_made 10 = .ok (.aload_n 0, 1) := by decide +kernel
theorem dX12_made_11 : decode cX12_made 11 = .ok (.getfield 28, 3) := by decide +kernel
theorem dX12_made_14 : decode cX12_made 14 = .ok (.aload_n 0, 1) := by decide +kernel
theorem dX12_made_15 : decode cX12_made 15 = .ok (.getfield 282, 3) := by decide +kernel
theorem dX12_made_18 : decode cX12_made 18 = .ok (.iload_n 2, 1) := by decide +kernel
theorem dX12_made_19 : decode cX12_made 19 = .ok (.iastore, 1) := by decide +kernel
theorem dX12_made_20 : decode cX12_made 20 = .ok (.aload_n 0, 1) := by decide +kernel
theorem dX12_made_21 : decode cX12_made 21 = .ok (.getfield 31, 3) := by decide +kernel
theorem dX12_made_24 : decode cX12_made 24 = .ok (.aload_n 0, 1) := by decide +kernel
theorem dX12_made_25 : decode cX12_made 25 = .ok (.getfield 282, 3) := by decide +kernel
theorem dX12_made_28 : decode cX12_made 28 = .ok (.iload_n 3, 1) := by decide +kernel
theorem dX12_made_29 : decode cX12_made 29 = .ok (.iastore, 1) := by decide +kernel
theorem dX12_made_30 : decode cX12_made 30 = .ok (.aload_n 0, 1) := by decide +kernel
theorem dX12_made_31 : decode cX12_made 31 = .ok (.getfield 34, 3) := by decide +kernel
theorem dX12_made_34 : decode cX12_made 34 = .ok (.aload_n 0, 1) := by decide +kernel
theorem dX12_made_35 : decode cX12_made 35 = .ok (.getfield 282, 3) := by decide +kernel
theorem dX12_made_38 : decode cX12_made 38 = .ok (.iload 4, 2) := by decide +kernel
theorem dX12_made_40 : decode cX12_made 40 = .ok (.iastore, 1) := by decide +kernel
theorem dX12_made_41 : decode cX12_made 41 = .ok (.aload_n 0, 1) := by decide +kernel
theorem dX12_made_42 : decode cX12_made 42 = .ok (.getfield 37, 3) := by decide +kernel
theorem dX12_made_45 : decode cX12_made 45 = .ok (.aload_n 0, 1) := by decide +kernel
theorem dX12_made_46 : decode cX12_made 46 = .ok (.getfield 282, 3) := by decide +kernel
theorem dX12_made_49 : decode cX12_made 49 = .ok (.iload 5, 2) := by decide +kernel
theorem dX12_made_51 : decode cX12_made 51 = .ok (.iastore, 1) := by decide +kernel
theorem dX12_made_52 : decode cX12_made 52 = .ok (.aload_n 0, 1) := by decide +kernel
theorem dX12_made_53 : decode cX12_made 53 = .ok (.dup, 1) := by decide +kernel
theorem dX12_made_54 : decode cX12_made 54 = .ok (.getfield 282, 3) := by decide +kernel
theorem dX12_made_57 : decode cX12_made 57 = .ok (.iconst 1, 1) := by decide +kernel
theorem dX12_made_58 : decode cX12_made 58 = .ok (.iadd, 1) := by decide +kernel
theorem dX12_made_59 : decode cX12_made 59 = .ok (.putfield 282, 3) := by decide +kernel
theorem dX12_made_62 : decode cX12_made 62 = .ok (.aload_n 0, 1) := by decide +kernel
theorem dX12_made_63 : decode cX12_made 63 = .ok (.getfield 282, 3) := by decide +kernel
theorem dX12_made_66 : decode cX12_made 66 = .ok (.iconst 1, 1) := by decide +kernel
theorem dX12_made_67 : decode cX12_made 67 = .ok (.isub, 1) := by decide +kernel
theorem dX12_made_68 : decode cX12_made 68 = .ok (.ireturn, 1) := by decide +kernel
theorem dX12_leaf_0 : decode cX12_leaf 0 = .ok (.aload_n 0, 1) := by decide +kernel
theorem dX12_leaf_1 : decode cX12_leaf 1 = .ok (.iload_n 1, 1) := by decide +kernel
theorem dX12_leaf_2 : decode cX12_leaf 2 = .ok (.ifCond .eq 10, 3) := by decide +kernel
theorem dX12_leaf_5 : decode cX12_leaf 5 = .ok (.iload_n 2, 1) := by decide +kernel
theorem dX12_leaf_6 : decode cX12_leaf 6 = .ok (.invokestatic 302, 3) := by decide +kernel
theorem dX12_leaf_9 : decode cX12_leaf 9 = .ok (.ifCond .eq 7, 3) := by decide +kernel
theorem dX12_leaf_12 : decode cX12_leaf 12 = .ok (.iconst 1, 1) := by decide +kernel
theorem dX12_leaf_13 : decode cX12_leaf 13 = .ok (.goto 4, 3) := by decide +kernel
theorem dX12_leaf_16 : decode cX12_leaf 16 = .ok (.iconst 0, 1) := by decide +kernel
theorem dX12_leaf_17 : decode cX12_leaf 17 = .ok (.aload_n 0, 1) := by decide +kernel
theorem dX12_leaf_18 : decode cX12_leaf 18 = .ok (.getfield 282, 3) := by decide +kernel
theorem dX12_leaf_21 : decode cX12_leaf 21 = .ok (.bipush 120, 2) := by decide +kernel
theorem dX12_leaf_23 : decode cX12_leaf 23 = .ok (.if_icmp .ge 7, 3) := by decide +kernel
theorem dX12_leaf_26 : decode cX12_leaf 26 = .ok (.iconst 1, 1) := by decide +kernel
theorem dX12_leaf_27 : decode cX12_leaf 27 = .ok (.goto 4, 3) := by decide +kernel
theorem dX12_leaf_30 : decode cX12_leaf 30 = .ok (.iconst 0, 1) := by decide +kernel
theorem dX12_leaf_31 : decode cX12_leaf 31 = .ok (.iconst 1, 1) := by decide +kernel
theorem dX12_leaf_32 : decode cX12_leaf 32 = .ok (.invokevirtual 298, 3) := by decide +kernel
theorem dX12_leaf_35 : decode cX12_leaf 35 = .ok (.ifCond .eq 23, 3) := by decide +kernel
theorem dX12_leaf_38 : decode cX12_leaf 38 = .ok (.aload_n 0, 1) := by decide +kernel
theorem dX12_leaf_39 : decode cX12_leaf 39 = .ok (.iload_n 1, 1) := by decide +kernel
theorem dX12_leaf_40 : decode cX12_leaf 40 = .ok (.ifCond .eq 7, 3) := by decide +kernel
theorem dX12_leaf_43 : decode cX12_leaf 43 = .ok (.iconst 1, 1) := by decide +kernel
theorem dX12_leaf_44 : decode cX12_leaf 44 = .ok (.goto 4, 3) := by decide +kernel
theorem dX12_leaf_47 : decode cX12_leaf 47 = .ok (.iconst 0, 1) := by decide +kernel
theorem dX12_leaf_48 : decode cX12_leaf 48 = .ok (.iload_n 2, 1) := by decide +kernel
theorem dX12_leaf_49 : decode cX12_leaf 49 = .ok (.iconst 0, 1) := by decide +kernel
theorem dX12_leaf_50 : decode cX12_leaf 50 = .ok (.iconst 0, 1) := by decide +kernel
theorem dX12_leaf_51 : decode cX12_leaf 51 = .ok (.iconst 1, 1) := by decide +kernel
theorem dX12_leaf_52 : decode cX12_leaf 52 = .ok (.invokevirtual 305, 3) := by decide +kernel
theorem dX12_leaf_55 : decode cX12_leaf 55 = .ok (.goto 4, 3) := by decide +kernel
theorem dX12_leaf_58 : decode cX12_leaf 58 = .ok (.iconst 0, 1) := by decide +kernel
theorem dX12_leaf_59 : decode cX12_leaf 59 = .ok (.ireturn, 1) := by decide +kernel
theorem dX12_partsOf_0 : decode cX12_partsOf 0 = .ok (.iload_n 0, 1) := by decide +kernel
theorem dX12_partsOf_1 : decode cX12_partsOf 1 = .ok (.iconst 2, 1) := by decide +kernel
theorem dX12_partsOf_2 : decode cX12_partsOf 2 = .ok (.if_icmp .ge 7, 3) := by decide +kernel
theorem dX12_partsOf_5 : decode cX12_partsOf 5 = .ok (.iconst 0, 1) := by decide +kernel
theorem dX12_partsOf_6 : decode cX12_partsOf 6 = .ok (.goto 28, 3) := by decide +kernel
theorem dX12_partsOf_9 : decode cX12_partsOf 9 = .ok (.iload_n 0, 1) := by decide +kernel
theorem dX12_partsOf_10 : decode cX12_partsOf 10 = .ok (.iconst 4, 1) := by decide +kernel
theorem dX12_partsOf_11 : decode cX12_partsOf 11 = .ok (.if_icmp .eq 8, 3) := by decide +kernel
theorem dX12_partsOf_14 : decode cX12_partsOf 14 = .ok (.iload_n 0, 1) := by decide +kernel
theorem dX12_partsOf_15 : decode cX12_partsOf 15 = .ok (.iconst 5, 1) := by decide +kernel
theorem dX12_partsOf_16 : decode cX12_partsOf 16 = .ok (.if_icmp .ne 7, 3) := by decide +kernel
theorem dX12_partsOf_19 : decode cX12_partsOf 19 = .ok (.iconst 1, 1) := by decide +kernel
theorem dX12_partsOf_20 : decode cX12_partsOf 20 = .ok (.goto 14, 3) := by decide +kernel
theorem dX12_partsOf_23 : decode cX12_partsOf 23 = .ok (.iload_n 0, 1) := by decide +kernel
theorem dX12_partsOf_24 : decode cX12_partsOf 24 = .ok (.bipush 6, 2) := by decide +kernel
theorem dX12_partsOf_26 : decode cX12_partsOf 26 = .ok (.if_icmp .ne 7, 3) := by decide +kernel
theorem dX12_partsOf_29 : decode cX12_partsOf 29 = .ok (.iconst 3, 1) := by decide +kernel
theorem dX12_partsOf_30 : decode cX12_partsOf 30 = .ok (.goto 4, 3) := by decide +kernel
theorem dX12_partsOf_33 : decode cX12_partsOf 33 = .ok (.iconst 2, 1) := by decide +kernel
theorem dX12_partsOf_34 : decode cX12_partsOf 34 = .ok (.ireturn, 1) := by decide +kernel
theorem dX12_expression_0 : decode cX12_expression 0 = .ok (.iload_n 1, 1) := by decide +kernel
theorem dX12_expression_1 : decode cX12_expression 1 = .ok (.iconst 0, 1) := by decide +kernel
theorem dX12_expression_2 : decode cX12_expression 2 = .ok (.iconst 4, 1) := by decide +kernel
theorem dX12_expression_3 : decode cX12_expression 3 = .ok (.invokestatic 278, 3) := by decide +kernel
theorem dX12_expression_6 : decode cX12_expression 6 = .ok (.istore 5, 2) := by decide +kernel
theorem dX12_expression_8 : decode cX12_expression 8 = .ok (.iload 5, 2) := by decide +kernel
theorem dX12_expression_10 : decode cX12_expression 10 = .ok (.ifCond .eq 12, 3) := by decide +kernel
theorem dX12_expression_13 : decode cX12_expression 13 = .ok (.iload_n 1, 1) := by decide +kernel
theorem dX12_expression_14 : decode cX12_expression 14 = .ok (.iconst 2, 1) := by decide +kernel
theorem dX12_expression_15 : decode cX12_expression 15 = .ok (.iadd, 1) := by decide +kernel
theorem dX12_expression_16 : decode cX12_expression 16 = .ok (.invokestatic 309, 3) := by decide +kernel
theorem dX12_expression_19 : decode cX12_expression 19 = .ok (.goto 4, 3) := by decide +kernel
theorem dX12_expression_22 : decode cX12_expression 22 = .ok (.iconst 0, 1) := by decide +kernel
theorem dX12_expression_23 : decode cX12_expression 23 = .ok (.istore 6, 2) := by decide +kernel
theorem dX12_expression_25 : decode cX12_expression 25 = .ok (.iload 6, 2) := by decide +kernel
theorem dX12_expression_27 : decode cX12_expression 27 = .ok (.iconst 1, 1) := by decide +kernel
theorem dX12_expression_28 : decode cX12_expression 28 = .ok (.if_icmp .lt 11, 3) := by decide +kernel
theorem dX12_expression_31 : decode cX12_expression 31 = .ok (.aload_n 0, 1) := by decide +kernel
theorem dX12_expression_32 : decode cX12_expression 32 = .ok (.iload_n 2, 1) := by decide +kernel
theorem dX12_expression_33 : decode cX12_expression 33 = .ok (.invokevirtual 313, 3) := by decide +kernel
theorem dX12_expression_36 : decode cX12_expression 36 = .ok (.ifCond .eq 36, 3) := by decide +kernel
theorem dX12_expression_39 : decode cX12_expression 39 = .ok (.iload 6, 2) := by decide +kernel
theorem dX12_expression_41 : decode cX12_expression 41 = .ok (.iconst 2, 1) := by decide +kernel
theorem dX12_expression_42 : decode cX12_expression 42 = .ok (.if_icmp .lt 11, 3) := by decide +kernel
theorem dX12_expression_45 : decode cX12_expression 45 = .ok (.aload_n 0, 1) := by decide +kernel
theorem dX12_expression_46 : decode cX12_expression 46 = .ok (.iload_n 3, 1) := by decide +kernel
theorem dX12_expression_47 : decode cX12_expression 47 = .ok (.invokevirtual 313, 3) := by decide +kernel
theorem dX12_expression_50 : decode cX12_expression 50 = .ok (.ifCond .eq 22, 3) := by decide +kernel
theorem dX12_expression_53 : decode cX12_expression 53 = .ok (.iload 6, 2) := by decide +kernel
theorem dX12_expression_55 : decode cX12_expression 55 = .ok (.iconst 3, 1) := by decide +kernel
theorem dX12_expression_56 : decode cX12_expression 56 = .ok (.if_icmp .lt 12, 3) := by decide +kernel
theorem dX12_expression_59 : decode cX12_expression 59 = .ok (.aload_n 0, 1) := by decide +kernel
theorem dX12_expression_60 : decode cX12_expression 60 = .ok (.iload 4, 2) := by decide +kernel
theorem dX12_expression_62 : decode cX12_expression 62 = .ok (.invokevirtual 313, 3) := by decide +kernel
theorem dX12_expression_65 : decode cX12_expression 65 = .ok (.ifCond .eq 7, 3) := by decide +kernel
theorem dX12_expression_68 : decode cX12_expression 68 = .ok (.iconst 1, 1) := by decide +kernel
theorem dX12_expression_69 : decode cX12_expression 69 = .ok (.goto 4, 3) := by decide +kernel
theorem dX12_expression_72 : decode cX12_expression 72 = .ok (.iconst 0, 1) := by decide +kernel
theorem dX12_expression_73 : decode cX12_expression 73 = .ok (.istore 7, 2) := by decide +kernel
theorem dX12_expression_75 : decode cX12_expression 75 = .ok (.iconst 1, 1) := by decide +kernel
theorem dX12_expression_76 : decode cX12_expression 76 = .ok (.istore 8, 2) := by decide +kernel
theorem dX12_expression_78 : decode cX12_expression 78 = .ok (.iload 5, 2) := by decide +kernel
theorem dX12_expression_80 : decode cX12_expression 80 = .ok (.ifCond .eq 54, 3) := by decide +kernel
theorem dX12_expression_83 : decode cX12_expression 83 = .ok (.iload 7, 2) := by decide +kernel
theorem dX12_expression_85 : decode cX12_expression 85 = .ok (.ifCond .eq 49, 3) := by decide +kernel
theorem dX12_expression_88 : decode cX12_expression 88 = .ok (.iload 8, 2) := by decide +kernel
theorem dX12_expression_90 : decode cX12_expression 90 = .ok (.aload_n 0, 1) := by decide +kernel
theorem dX12_expression_91 : decode cX12_expression 91 = .ok (.getfield 37, 3) := by decide +kernel
theorem dX12_expression_94 : decode cX12_expression 94 = .ok (.iload_n 2, 1) := by decide +kernel
theorem dX12_expression_95 : decode cX12_expression 95 = .ok (.iaload, 1) := by decide +kernel
theorem dX12_expression_96 : decode cX12_expression 96 = .ok (.iload 6, 2) := by decide +kernel
theorem dX12_expression_98 : decode cX12_expression 98 = .ok (.iconst 1, 1) := by decide +kernel
theorem dX12_expression_99 : decode cX12_expression 99 = .ok (.if_icmp .le 12, 3) := by decide +kernel
theorem dX12_expression_102 : decode cX12_expression 102 = .ok (.aload_n 0, 1) := by decide +kernel
theorem dX12_expression_103 : decode cX12_expression 103 = .ok (.getfield 37, 3) := by decide +kernel
theorem dX12_expression_106 : decode cX12_expression 106 = .ok (.iload_n 3, 1) := by decide +kernel
theorem dX12_expression_107 : decode cX12_expression 107 = .ok (.iaload, 1) := by decide +kernel
theorem dX12_expression_108 : decode cX12_expression 108 = .ok (.goto 4, 3) := by decide +kernel
theorem dX12_expression_111 : decode cX12_expression 111 = .ok (.iconst 0, 1) := by decide +kernel
theorem dX12_expression_112 : decode cX12_expression 112 = .ok (.iadd, 1) := by decide +kernel
theorem dX12_expression_113 : decode cX12_expression 113 = .ok (.iload 6, 2) := by decide +kernel
theorem dX12_expression_115 : decode cX12_expression 115 = .ok (.iconst 2, 1) := by decide +kernel
theorem dX12_expression_116 : decode cX12_expression 116 = .ok (.if_icmp .le 13, 3) := by decide +kernel
theorem dX12_expression_119 : decode cX12_expression 119 = .ok (.aload_n 0, 1) := by decide +kernel
theorem dX12_expression_120 : decode cX12_expression 120 = .ok (.getfield 37, 3) := by decide +kernel
theorem dX12_expression_123 : decode cX12_expression 123 = .ok (.iload 4, 2) := by decide +kernel
theorem dX12_expression_125 : decode cX12_expression 125 = .ok (.iaload, 1) := by decide +kernel
theorem dX12_expression_126 : decode cX12_expression 126 = .ok (.goto 4, 3) := by decide +kernel
theorem dX12_expression_129 : decode cX12_expression 129 = .ok (.iconst 0, 1) := by decide +kernel
theorem dX12_expression_130 : decode cX12_expression 130 = .ok (.iadd, 1) := by decide +kernel
theorem dX12_expression_131 : decode cX12_expression 131 = .ok (.iadd, 1) := by decide +kernel
theorem dX12_expression_132 : decode cX12_expression 132 = .ok (.istore 8, 2) := by decide +kernel
theorem dX12_expression_134 : decode cX12_expression 134 = .ok (.aload_n 0, 1) := by decide +kernel
theorem dX12_expression_135 : decode cX12_expression 135 = .ok (.iload 5, 2) := by decide +kernel
theorem dX12_expression_137 : decode cX12_expression 137 = .ok (.iload 7, 2) := by decide +kernel
theorem dX12_expression_139 : decode cX12_expression 139 = .ok (.aload_n 0, 1) := by decide +kernel
theorem dX12_expression_140 : decode cX12_expression 140 = .ok (.getfield 282, 3) := by decide +kernel
theorem dX12_expression_143 : decode cX12_expression 143 = .ok (.bipush 120, 2) := by decide +kernel
theorem dX12_expression_145 : decode cX12_expression 145 = .ok (.if_icmp .ge 14, 3) := by decide +kernel
theorem dX12_expression_148 : decode cX12_expression 148 = .ok (.iload 8, 2) := by decide +kernel
theorem dX12_expression_150 : decode cX12_expression 150 = .ok (.bipush 12, 2) := by decide +kernel
theorem dX12_expression_152 : decode cX12_expression 152 = .ok (.if_icmp .gt 7, 3) := by decide +kernel
theorem dX12_expression_155 : decode cX12_expression 155 = .ok (.iconst 1, 1) := by decide +kernel
theorem dX12_expression_156 : decode cX12_expression 156 = .ok (.goto 4, 3) := by decide +kernel
theorem dX12_expression_159 : decode cX12_expression 159 = .ok (.iconst 0, 1) := by decide +kernel
theorem dX12_expression_160 : decode cX12_expression 160 = .ok (.invokevirtual 298, 3) := by decide +kernel
theorem dX12_expression_163 : decode cX12_expression 163 = .ok (.ifCond .ne 5, 3) := by decide +kernel
theorem dX12_expression_166 : decode cX12_expression 166 = .ok (.iconst 0, 1) := by decide +kernel
theorem dX12_expression_167 : decode cX12_expression 167 = .ok (.ireturn, 1) := by decide +kernel
theorem dX12_expression_168 : decode cX12_expression 168 = .ok (.aload_n 0, 1) := by decide +kernel
theorem dX12_expression_169 : decode cX12_expression 169 = .ok (.iload_n 1, 1) := by decide +kernel
theorem dX12_expression_170 : decode cX12_expression 170 = .ok (.iconst 2, 1) := by decide +kernel
theorem dX12_expression_171 : decode cX12_expression 171 = .ok (.iadd, 1) := by decide +kernel
theorem dX12_expression_172 : decode cX12_expression 172 = .ok (.iload_n 2, 1) := by decide +kernel
theorem dX12_expression_173 : decode cX12_expression 173 = .ok (.iload 6, 2) := by decide +kernel
theorem dX12_expression_175 : decode cX12_expression 175 = .ok (.iconst 1, 1) := by decide +kernel
theorem dX12_expression_176 : decode cX12_expression 176 = .ok (.if_icmp .le 7, 3) := by decide +kernel
theorem dX12_expression_179 : decode cX12_expression 179 = .ok (.iload_n 3, 1) := by decide +kernel
theorem dX12_expression_180 : decode cX12_expression 180 = .ok (.goto 4, 3) := by decide +kernel
theorem dX12_expression_183 : decode cX12_expression 183 = .ok (.iconst 0, 1) := by decide +kernel
theorem dX12_expression_184 : decode cX12_expression 184 = .ok (.iload 6, 2) := by decide +kernel
theorem dX12_expression_186 : decode cX12_expression 186 = .ok (.iconst 2, 1) := by decide +kernel
theorem dX12_expression_187 : decode cX12_expression 187 = .ok (.if_icmp .le 8, 3) := by decide +kernel
theorem dX12_expression_190 : decode cX12_expression 190 = .ok (.iload 4, 2) := by decide +kernel
theorem dX12_expression_192 : decode cX12_expression 192 = .ok (.goto 4, 3) := by decide +kernel
theorem dX12_expression_195 : decode cX12_expression 195 = .ok (.iconst 0, 1) := by decide +kernel
theorem dX12_expression_196 : decode cX12_expression 196 = .ok (.iload 8, 2) := by decide +kernel
theorem dX12_expression_198 : decode cX12_expression 198 = .ok (.invokevirtual 305, 3) := by decide +kernel
theorem dX12_expression_201 : decode cX12_expression 201 = .ok (.ireturn, 1) := by decide +kernel
theorem dX12_unit_0 : decode cX12_unit 0 = .ok (.aload_n 0, 1) := by decide +kernel
theorem dX12_unit_1 : decode cX12_unit 1 = .ok (.aload_n 0, 1) := by decide +kernel
theorem dX12_unit_2 : decode cX12_unit 2 = .ok (.getfield 285, 3) := by decide +kernel
theorem dX12_unit_5 : decode cX12_unit 5 = .ok (.bipush 8, 2) := by decide +kernel
theorem dX12_unit_7 : decode cX12_unit 7 = .ok (.if_icmp .ge 7, 3) := by decide +kernel
theorem dX12_unit_10 : decode cX12_unit 10 = .ok (.iconst 1, 1) := by decide +kernel
theorem dX12_unit_11 : decode cX12_unit 11 = .ok (.goto 4, 3) := by decide +kernel
theorem dX12_unit_14 : decode cX12_unit 14 = .ok (.iconst 0, 1) := by decide +kernel
theorem dX12_unit_15 : decode cX12_unit 15 = .ok (.iconst 1, 1) := by decide +kernel
theorem dX12_unit_16 : decode cX12_unit 16 = .ok (.iconst 1, 1) := by decide +kernel
theorem dX12_unit_17 : decode cX12_unit 17 = .ok (.invokevirtual 298, 3) := by decide +kernel
theorem dX12_unit_20 : decode cX12_unit 20 = .ok (.ifCond .ne 5, 3) := by decide +kernel
theorem dX12_unit_23 : decode cX12_unit 23 = .ok (.iconst 0, 1) := by decide +kernel
theorem dX12_unit_24 : decode cX12_unit 24 = .ok (.ireturn, 1) := by decide +kernel
theorem dX12_unit_25 : decode cX12_unit 25 = .ok (.aload_n 0, 1) := by decide +kernel
theorem dX12_unit_26 : decode cX12_unit 26 = .ok (.getfield 40, 3) := by decide +kernel
theorem dX12_unit_29 : decode cX12_unit 29 = .ok (.aload_n 0, 1) := by decide +kernel
theorem dX12_unit_30 : decode cX12_unit 30 = .ok (.getfield 285, 3) := by decide +kernel
theorem dX12_unit_33 : decode cX12_unit 33 = .ok (.iconst 1, 1) := by decide +kernel
theorem dX12_unit_34 : decode cX12_unit 34 = .ok (.iastore, 1) := by decide +kernel
theorem dX12_unit_35 : decode cX12_unit 35 = .ok (.aload_n 0, 1) := by decide +kernel
theorem dX12_unit_36 : decode cX12_unit 36 = .ok (.dup, 1) := by decide +kernel
theorem dX12_unit_37 : decode cX12_unit 37 = .ok (.getfield 285, 3) := by decide +kernel
theorem dX12_unit_40 : decode cX12_unit 40 = .ok (.iconst 1, 1) := by decide +kernel
theorem dX12_unit_41 : decode cX12_unit 41 = .ok (.iadd, 1) := by decide +kernel
theorem dX12_unit_42 : decode cX12_unit 42 = .ok (.putfield 285, 3) := by decide +kernel
theorem dX12_unit_45 : decode cX12_unit 45 = .ok (.aload_n 0, 1) := by decide +kernel
theorem dX12_unit_46 : decode cX12_unit 46 = .ok (.getfield 285, 3) := by decide +kernel
theorem dX12_unit_49 : decode cX12_unit 49 = .ok (.iconst 1, 1) := by decide +kernel
theorem dX12_unit_50 : decode cX12_unit 50 = .ok (.isub, 1) := by decide +kernel
theorem dX12_unit_51 : decode cX12_unit 51 = .ok (.ireturn, 1) := by decide +kernel
theorem dX12_at_0 : decode cX12_at 0 = .ok (.iconst 5, 1) := by decide +kernel
theorem dX12_at_1 : decode cX12_at 1 = .ok (.iload_n 0, 1) := by decide +kernel
theorem dX12_at_2 : decode cX12_at 2 = .ok (.imul, 1) := by decide +kernel
theorem dX12_at_3 : decode cX12_at 3 = .ok (.iload_n 1, 1) := by decide +kernel
theorem dX12_at_4 : decode cX12_at 4 = .ok (.iadd, 1) := by decide +kernel
theorem dX12_at_5 : decode cX12_at 5 = .ok (.ireturn, 1) := by decide +kernel
theorem dX12_latest_0 : decode cX12_latest 0 = .ok (.iload_n 1, 1) := by decide +kernel
theorem dX12_latest_1 : decode cX12_latest 1 = .ok (.aload_n 0, 1) := by decide +kernel
theorem dX12_latest_2 : decode cX12_latest 2 = .ok (.getfield 40, 3) := by decide +kernel
theorem dX12_latest_5 : decode cX12_latest 5 = .ok (.iload_n 1, 1) := by decide +kernel
theorem dX12_latest_6 : decode cX12_latest 6 = .ok (.iaload, 1) := by decide +kernel
theorem dX12_latest_7 : decode cX12_latest 7 = .ok (.iconst 1, 1) := by decide +kernel
theorem dX12_latest_8 : decode cX12_latest 8 = .ok (.isub, 1) := by decide +kernel
theorem dX12_latest_9 : decode cX12_latest 9 = .ok (.invokestatic 316, 3) := by decide +kernel
theorem dX12_latest_12 : decode cX12_latest 12 = .ok (.ireturn, 1) := by decide +kernel
theorem dX12_version_0 : decode cX12_version 0 = .ok (.aload_n 0, 1) := by decide +kernel
theorem dX12_version_1 : decode cX12_version 1 = .ok (.iload_n 1, 1) := by decide +kernel
theorem dX12_version_2 : decode cX12_version 2 = .ok (.invokevirtual 320, 3) := by decide +kernel
theorem dX12_version_5 : decode cX12_version 5 = .ok (.istore_n 2, 1) := by decide +kernel
theorem dX12_version_6 : decode cX12_version 6 = .ok (.aload_n 0, 1) := by decide +kernel
theorem dX12_version_7 : decode cX12_version 7 = .ok (.iload_n 2, 1) := by decide +kernel
theorem dX12_version_8 : decode cX12_version 8 = .ok (.iload_n 2, 1) := by decide +kernel
theorem dX12_version_9 : decode cX12_version 9 = .ok (.ifCond .eq 17, 3) := by decide +kernel
theorem dX12_version_12 : decode cX12_version 12 = .ok (.aload_n 0, 1) := by decide +kernel
theorem dX12_version_13 : decode cX12_version 13 = .ok (.getfield 40, 3) := by decide +kernel
theorem dX12_version_16 : decode cX12_version 16 = .ok (.iload_n 1, 1) := by decide +kernel
theorem dX12_version_17 : decode cX12_version 17 = .ok (.iaload, 1) := by decide +kernel
theorem dX12_version_18 : decode cX12_version 18 = .ok (.iconst 5, 1) := by decide +kernel
theorem dX12_version_19 : decode cX12_version 19 = .ok (.if_icmp .ge 7, 3) := by decide +kernel
theorem dX12_version_22 : decode cX12_version 22 = .ok (.iconst 1, 1) := by decide +kernel
theorem dX12_version_23 : decode cX12_version 23 = .ok (.goto 4, 3) := by decide +kernel
theorem dX12_version_26 : decode cX12_version 26 = .ok (.iconst 0, 1) := by decide +kernel
theorem dX12_version_27 : decode cX12_version 27 = .ok (.iconst 1, 1) := by decide +kernel
theorem dX12_version_28 : decode cX12_version 28 = .ok (.invokevirtual 298, 3) := by decide +kernel
theorem dX12_version_31 : decode cX12_version 31 = .ok (.ifCond .ne 5, 3) := by decide +kernel
theorem dX12_version_34 : decode cX12_version 34 = .ok (.iconst 0, 1) := by decide +kernel
theorem dX12_version_35 : decode cX12_version 35 = .ok (.ireturn, 1) := by decide +kernel
theorem dX12_version_36 : decode cX12_version 36 = .ok (.aload_n 0, 1) := by decide +kernel
theorem dX12_version_37 : decode cX12_version 37 = .ok (.iload_n 1, 1) := by decide +kernel
theorem dX12_version_38 : decode cX12_version 38 = .ok (.invokevirtual 323, 3) := by decide +kernel
theorem dX12_version_41 : decode cX12_version 41 = .ok (.istore_n 3, 1) := by decide +kernel
theorem dX12_version_42 : decode cX12_version 42 = .ok (.iconst 0, 1) := by decide +kernel
theorem dX12_version_43 : decode cX12_version 43 = .ok (.istore 4, 2) := by decide +kernel
theorem dX12_version_45 : decode cX12_version 45 = .ok (.iload 4, 2) := by decide +kernel
theorem dX12_version_47 : decode cX12_version 47 = .ok (.bipush 6, 2) := by decide +kernel
theorem dX12_version_49 : decode cX12_version 49 = .ok (.if_icmp .ge 35, 3) := by decide +kernel
theorem dX12_version_52 : decode cX12_version 52 = .ok (.aload_n 0, 1) := by decide +kernel
theorem dX12_version_53 : decode cX12_version 53 = .ok (.getfield 43, 3) := by decide +kernel
theorem dX12_version_56 : decode cX12_version 56 = .ok (.bipush 6, 2) := by decide +kernel
theorem dX12_version_58 : decode cX12_version 58 = .ok (.iload_n 3, 1) := by decide +kernel
theorem dX12_version_59 : decode cX12_version 59 = .ok (.iconst 1, 1) := by decide +kernel
theorem dX12_version_60 : decode cX12_version 60 = .ok (.iadd, 1) := by decide +kernel
theorem dX12_version_61 : decode cX12_version 61 = .ok (.imul, 1) := by decide +kernel
theorem dX12_version_62 : decode cX12_version 62 = .ok (.iload 4, 2) := by decide +kernel
theorem dX12_version_64 : decode cX12_version 64 = .ok (.iadd, 1) := by decide +kernel
theorem dX12_version_65 : decode cX12_version 65 = .ok (.aload_n 0, 1) := by decide +kernel
theorem dX12_version_66 : decode cX12_version 66 = .ok (.getfield 43, 3) := by decide +kernel
theorem dX12_version_69 : decode cX12_version 69 = .ok (.bipush 6, 2) := by decide +kernel
theorem dX12_version_71 : decode cX12_version 71 = .ok (.iload_n 3, 1) := by decide +kernel
theorem dX12_version_72 : decode cX12_version 72 = .ok (.imul, 1) := by decide +kernel
theorem dX12_version_73 : decode cX12_version 73 = .ok (.iload 4, 2) := by decide +kernel
theorem dX12_version_75 : decode cX12_version 75 = .ok (.iadd, 1) := by decide +kernel
theorem dX12_version_76 : decode cX12_version 76 = .ok (.iaload, 1) := by decide +kernel
theorem dX12_version_77 : decode cX12_version 77 = .ok (.iastore, 1) := by decide +kernel
theorem dX12_version_78 : decode cX12_version 78 = .ok (.iinc 4 1, 3) := by decide +kernel
theorem dX12_version_81 : decode cX12_version 81 = .ok (.goto (-36), 3) := by decide +kernel
theorem dX12_version_84 : decode cX12_version 84 = .ok (.iconst 0, 1) := by decide +kernel
theorem dX12_version_85 : decode cX12_version 85 = .ok (.istore 4, 2) := by decide +kernel
theorem dX12_version_87 : decode cX12_version 87 = .ok (.iload 4, 2) := by decide +kernel
theorem dX12_version_89 : decode cX12_version 89 = .ok (.bipush 10, 2) := by decide +kernel
theorem dX12_version_91 : decode cX12_version 91 = .ok (.if_icmp .ge 87, 3) := by decide +kernel
theorem dX12_version_94 : decode cX12_version 94 = .ok (.aload_n 0, 1) := by decide +kernel
theorem dX12_version_95 : decode cX12_version 95 = .ok (.getfield 46, 3) := by decide +kernel
theorem dX12_version_98 : decode cX12_version 98 = .ok (.bipush 10, 2) := by decide +kernel
theorem dX12_version_100 : decode cX12_version 100 = .ok (.iload_n 3, 1) := by decide +kernel
theorem dX12_version_101 : decode cX12_version 101 = .ok (.iconst 1, 1) := by decide +kernel
theorem dX12_version_102 : decode cX12_version 102 = .ok (.iadd, 1) := by decide +kernel
theorem dX12_version_103 : decode cX12_version 103 = .ok (.imul, 1) := by decide +kernel
theorem dX12_version_104 : decode cX12_version 104 = .ok (.iload 4, 2) := by decide +kernel
theorem dX12_version_106 : decode cX12_version 106 = .ok (.iadd, 1) := by decide +kernel
theorem dX12_version_107 : decode cX12_version 107 = .ok (.aload_n 0, 1) := by decide +kernel
theorem dX12_version_108 : decode cX12_version 108 = .ok (.getfield 46, 3) := by decide +kernel
theorem dX12_version_111 : decode cX12_version 111 = .ok (.bipush 10, 2) := by decide +kernel
theorem dX12_version_113 : decode cX12_version 113 = .ok (.iload_n 3, 1) := by decide +kernel
theorem dX12_version_114 : decode cX12_version 114 = .ok (.imul, 1) := by decide +kernel
theorem dX12_version_115 : decode cX12_version 115 = .ok (.iload 4, 2) := by decide +kernel
theorem dX12_version_117 : decode cX12_version 117 = .ok (.iadd, 1) := by decide +kernel
theorem dX12_version_118 : decode cX12_version 118 = .ok (.iaload, 1) := by decide +kernel
theorem dX12_version_119 : decode cX12_version 119 = .ok (.iastore, 1) := by decide +kernel
theorem dX12_version_120 : decode cX12_version 120 = .ok (.aload_n 0, 1) := by decide +kernel
theorem dX12_version_121 : decode cX12_version 121 = .ok (.getfield 49, 3) := by decide +kernel
theorem dX12_version_124 : decode cX12_version 124 = .ok (.bipush 10, 2) := by decide +kernel
theorem dX12_version_126 : decode cX12_version 126 = .ok (.iload_n 3, 1) := by decide +kernel
theorem dX12_version_127 : decode cX12_version 127 = .ok (.iconst 1, 1) := by decide +kernel
theorem dX12_version_128 : decode cX12_version 128 = .ok (.iadd, 1) := by decide +kernel
theorem dX12_version_129 : decode cX12_version 129 = .ok (.imul, 1) := by decide +kernel
theorem dX12_version_130 : decode cX12_version 130 = .ok (.iload 4, 2) := by decide +kernel
theorem dX12_version_132 : decode cX12_version 132 = .ok (.iadd, 1) := by decide +kernel
theorem dX12_version_133 : decode cX12_version 133 = .ok (.aload_n 0, 1) := by decide +kernel
theorem dX12_version_134 : decode cX12_version 134 = .ok (.getfield 49, 3) := by decide +kernel
theorem dX12_version_137 : decode cX12_version 137 = .ok (.bipush 10, 2) := by decide +kernel
theorem dX12_version_139 : decode cX12_version 139 = .ok (.iload_n 3, 1) := by decide +kernel
theorem dX12_version_140 : decode cX12_version 140 = .ok (.imul, 1) := by decide +kernel
theorem dX12_version_141 : decode cX12_version 141 = .ok (.iload 4, 2) := by decide +kernel
theorem dX12_version_143 : decode cX12_version 143 = .ok (.iadd, 1) := by decide +kernel
theorem dX12_version_144 : decode cX12_version 144 = .ok (.iaload, 1) := by decide +kernel
theorem dX12_version_145 : decode cX12_version 145 = .ok (.iastore, 1) := by decide +kernel
theorem dX12_version_146 : decode cX12_version 146 = .ok (.aload_n 0, 1) := by decide +kernel
theorem dX12_version_147 : decode cX12_version 147 = .ok (.getfield 52, 3) := by decide +kernel
theorem dX12_version_150 : decode cX12_version 150 = .ok (.bipush 10, 2) := by decide +kernel
theorem dX12_version_152 : decode cX12_version 152 = .ok (.iload_n 3, 1) := by decide +kernel
theorem dX12_version_153 : decode cX12_version 153 = .ok (.iconst 1, 1) := by decide +kernel
theorem dX12_version_154 : decode cX12_version 154 = .ok (.iadd, 1) := by decide +kernel
theorem dX12_version_155 : decode cX12_version 155 = .ok (.imul, 1) := by decide +kernel
theorem dX12_version_156 : decode cX12_version 156 = .ok (.iload 4, 2) := by decide +kernel
theorem dX12_version_158 : decode cX12_version 158 = .ok (.iadd, 1) := by decide +kernel
theorem dX12_version_159 : decode cX12_version 159 = .ok (.aload_n 0, 1) := by decide +kernel
theorem dX12_version_160 : decode cX12_version 160 = .ok (.getfield 52, 3) := by decide +kernel
theorem dX12_version_163 : decode cX12_version 163 = .ok (.bipush 10, 2) := by decide +kernel
theorem dX12_version_165 : decode cX12_version 165 = .ok (.iload_n 3, 1) := by decide +kernel
theorem dX12_version_166 : decode cX12_version 166 = .ok (.imul, 1) := by decide +kernel
theorem dX12_version_167 : decode cX12_version 167 = .ok (.iload 4, 2) := by decide +kernel
theorem dX12_version_169 : decode cX12_version 169 = .ok (.iadd, 1) := by decide +kernel
theorem dX12_version_170 : decode cX12_version 170 = .ok (.iaload, 1) := by decide +kernel
theorem dX12_version_171 : decode cX12_version 171 = .ok (.iastore, 1) := by decide +kernel
