theorem dX12_version_172 : decode cX12_version 172 = .ok (.iinc 4 1, 3) := by decide +kernel
theorem dX12_version_175 : decode cX12_version 175 = .ok (.goto (-88), 3) := by decide +kernel
theorem dX12_version_178 : decode cX12_version 178 = .ok (.aload_n 0, 1) := by decide +kernel
theorem dX12_version_179 : decode cX12_version 179 = .ok (.getfield 40, 3) := by decide +kernel
theorem dX12_version_182 : decode cX12_version 182 = .ok (.iload_n 1, 1) := by decide +kernel
theorem dX12_version_183 : decode cX12_version 183 = .ok (.dup2, 1) := by decide +kernel
theorem dX12_version_184 : decode cX12_version 184 = .ok (.iaload, 1) := by decide +kernel
theorem dX12_version_185 : decode cX12_version 185 = .ok (.iconst 1, 1) := by decide +kernel
theorem dX12_version_186 : decode cX12_version 186 = .ok (.iadd, 1) := by decide +kernel
theorem dX12_version_187 : decode cX12_version 187 = .ok (.iastore, 1) := by decide +kernel
theorem dX12_version_188 : decode cX12_version 188 = .ok (.aload_n 0, 1) := by decide +kernel
theorem dX12_version_189 : decode cX12_version 189 = .ok (.getfield 40, 3) := by decide +kernel
theorem dX12_version_192 : decode cX12_version 192 = .ok (.iload_n 1, 1) := by decide +kernel
theorem dX12_version_193 : decode cX12_version 193 = .ok (.iaload, 1) := by decide +kernel
theorem dX12_version_194 : decode cX12_version 194 = .ok (.iconst 1, 1) := by decide +kernel
theorem dX12_version_195 : decode cX12_version 195 = .ok (.isub, 1) := by decide +kernel
theorem dX12_version_196 : decode cX12_version 196 = .ok (.ireturn, 1) := by decide +kernel
theorem dX12_setType_0 : decode cX12_setType 0 = .ok (.aload_n 0, 1) := by decide +kernel
theorem dX12_setType_1 : decode cX12_setType 1 = .ok (.aload_n 0, 1) := by decide +kernel
theorem dX12_setType_2 : decode cX12_setType 2 = .ok (.iload_n 1, 1) := by decide +kernel
theorem dX12_setType_3 : decode cX12_setType 3 = .ok (.invokevirtual 320, 3) := by decide +kernel
theorem dX12_setType_6 : decode cX12_setType 6 = .ok (.ifCond .eq 26, 3) := by decide +kernel
theorem dX12_setType_9 : decode cX12_setType 9 = .ok (.iload_n 3, 1) := by decide +kernel
theorem dX12_setType_10 : decode cX12_setType 10 = .ok (.iconst (-1), 1) := by decide +kernel
theorem dX12_setType_11 : decode cX12_setType 11 = .ok (.if_icmp .eq 17, 3) := by decide +kernel
theorem dX12_setType_14 : decode cX12_setType 14 = .ok (.iload_n 3, 1) := by decide +kernel
theorem dX12_setType_15 : decode cX12_setType 15 = .ok (.bipush (-2), 2) := by decide +kernel
theorem dX12_setType_17 : decode cX12_setType 17 = .ok (.if_icmp .eq 11, 3) := by decide +kernel
theorem dX12_setType_20 : decode cX12_setType 20 = .ok (.aload_n 0, 1) := by decide +kernel
theorem dX12_setType_21 : decode cX12_setType 21 = .ok (.iload_n 3, 1) := by decide +kernel
theorem dX12_setType_22 : decode cX12_setType 22 = .ok (.invokevirtual 295, 3) := by decide +kernel
theorem dX12_setType_25 : decode cX12_setType 25 = .ok (.ifCond .eq 7, 3) := by decide +kernel
theorem dX12_setType_28 : decode cX12_setType 28 = .ok (.iconst 1, 1) := by decide +kernel
theorem dX12_setType_29 : decode cX12_setType 29 = .ok (.goto 4, 3) := by decide +kernel
theorem dX12_setType_32 : decode cX12_setType 32 = .ok (.iconst 0, 1) := by decide +kernel
theorem dX12_setType_33 : decode cX12_setType 33 = .ok (.iload_n 2, 1) := by decide +kernel
theorem dX12_setType_34 : decode cX12_setType 34 = .ok (.invokestatic 291, 3) := by decide +kernel
theorem dX12_setType_37 : decode cX12_setType 37 = .ok (.iconst 1, 1) := by decide +kernel
theorem dX12_setType_38 : decode cX12_setType 38 = .ok (.invokevirtual 298, 3) := by decide +kernel
theorem dX12_setType_41 : decode cX12_setType 41 = .ok (.ifCond .eq 19, 3) := by decide +kernel
theorem dX12_setType_44 : decode cX12_setType 44 = .ok (.aload_n 0, 1) := by decide +kernel
theorem dX12_setType_45 : decode cX12_setType 45 = .ok (.getfield 43, 3) := by decide +kernel
theorem dX12_setType_48 : decode cX12_setType 48 = .ok (.bipush 6, 2) := by decide +kernel
theorem dX12_setType_50 : decode cX12_setType 50 = .ok (.aload_n 0, 1) := by decide +kernel
theorem dX12_setType_51 : decode cX12_setType 51 = .ok (.iload_n 1, 1) := by decide +kernel
theorem dX12_setType_52 : decode cX12_setType 52 = .ok (.invokevirtual 323, 3) := by decide +kernel
theorem dX12_setType_55 : decode cX12_setType 55 = .ok (.imul, 1) := by decide +kernel
theorem dX12_setType_56 : decode cX12_setType 56 = .ok (.iload_n 2, 1) := by decide +kernel
theorem dX12_setType_57 : decode cX12_setType 57 = .ok (.iadd, 1) := by decide +kernel
theorem dX12_setType_58 : decode cX12_setType 58 = .ok (.iload_n 3, 1) := by decide +kernel
theorem dX12_setType_59 : decode cX12_setType 59 = .ok (.iastore, 1) := by decide +kernel
theorem dX12_setType_60 : decode cX12_setType 60 = .ok (.return_, 1) := by decide +kernel
theorem dX12_setValue_0 : decode cX12_setValue 0 = .ok (.aload_n 0, 1) := by decide +kernel
theorem dX12_setValue_1 : decode cX12_setValue 1 = .ok (.iload_n 1, 1) := by decide +kernel
theorem dX12_setValue_2 : decode cX12_setValue 2 = .ok (.invokevirtual 320, 3) := by decide +kernel
theorem dX12_setValue_5 : decode cX12_setValue 5 = .ok (.ifCond .eq 30, 3) := by decide +kernel
theorem dX12_setValue_8 : decode cX12_setValue 8 = .ok (.aload_n 0, 1) := by decide +kernel
theorem dX12_setValue_9 : decode cX12_setValue 9 = .ok (.iload_n 3, 1) := by decide +kernel
theorem dX12_setValue_10 : decode cX12_setValue 10 = .ok (.invokevirtual 295, 3) := by decide +kernel
theorem dX12_setValue_13 : decode cX12_setValue 13 = .ok (.ifCond .eq 22, 3) := by decide +kernel
theorem dX12_setValue_16 : decode cX12_setValue 16 = .ok (.iload 4, 2) := by decide +kernel
theorem dX12_setValue_18 : decode cX12_setValue 18 = .ok (.iconst (-1), 1) := by decide +kernel
theorem dX12_setValue_19 : decode cX12_setValue 19 = .ok (.if_icmp .eq 12, 3) := by decide +kernel
theorem dX12_setValue_22 : decode cX12_setValue 22 = .ok (.aload_n 0, 1) := by decide +kernel
theorem dX12_setValue_23 : decode cX12_setValue 23 = .ok (.iload 4, 2) := by decide +kernel
theorem dX12_setValue_25 : decode cX12_setValue 25 = .ok (.invokevirtual 313, 3) := by decide +kernel
theorem dX12_setValue_28 : decode cX12_setValue 28 = .ok (.ifCond .eq 7, 3) := by decide +kernel
theorem dX12_setValue_31 : decode cX12_setValue 31 = .ok (.iconst 1, 1) := by decide +kernel
theorem dX12_setValue_32 : decode cX12_setValue 32 = .ok (.goto 4, 3) := by decide +kernel
theorem dX12_setValue_35 : decode cX12_setValue 35 = .ok (.iconst 0, 1) := by decide +kernel
theorem dX12_setValue_36 : decode cX12_setValue 36 = .ok (.istore 6, 2) := by decide +kernel
theorem dX12_setValue_38 : decode cX12_setValue 38 = .ok (.iload_n 2, 1) := by decide +kernel
theorem dX12_setValue_39 : decode cX12_setValue 39 = .ok (.invokestatic 302, 3) := by decide +kernel
theorem dX12_setValue_42 : decode cX12_setValue 42 = .ok (.ifCond .eq 35, 3) := by decide +kernel
theorem dX12_setValue_45 : decode cX12_setValue 45 = .ok (.iload 5, 2) := by decide +kernel
theorem dX12_setValue_47 : decode cX12_setValue 47 = .ok (.iconst 0, 1) := by decide +kernel
theorem dX12_setValue_48 : decode cX12_setValue 48 = .ok (.bipush 7, 2) := by decide +kernel
theorem dX12_setValue_50 : decode cX12_setValue 50 = .ok (.invokestatic 278, 3) := by decide +kernel
theorem dX12_setValue_53 : decode cX12_setValue 53 = .ok (.ifCond .eq 24, 3) := by decide +kernel
theorem dX12_setValue_56 : decode cX12_setValue 56 = .ok (.iload 4, 2) := by decide +kernel
theorem dX12_setValue_58 : decode cX12_setValue 58 = .ok (.iconst (-1), 1) := by decide +kernel
theorem dX12_setValue_59 : decode cX12_setValue 59 = .ok (.if_icmp .ne 14, 3) := by decide +kernel
theorem dX12_setValue_62 : decode cX12_setValue 62 = .ok (.iload 5, 2) := by decide +kernel
theorem dX12_setValue_64 : decode cX12_setValue 64 = .ok (.ifCond .eq 9, 3) := by decide +kernel
theorem dX12_setValue_67 : decode cX12_setValue 67 = .ok (.iload 5, 2) := by decide +kernel
theorem dX12_setValue_69 : decode cX12_setValue 69 = .ok (.iconst 4, 1) := by decide +kernel
theorem dX12_setValue_70 : decode cX12_setValue 70 = .ok (.if_icmp .ne 7, 3) := by decide +kernel
theorem dX12_setValue_73 : decode cX12_setValue 73 = .ok (.iconst 1, 1) := by decide +kernel
theorem dX12_setValue_74 : decode cX12_setValue 74 = .ok (.goto 4, 3) := by decide +kernel
theorem dX12_setValue_77 : decode cX12_setValue 77 = .ok (.iconst 0, 1) := by decide +kernel
theorem dX12_setValue_78 : decode cX12_setValue 78 = .ok (.istore 7, 2) := by decide +kernel
theorem dX12_setValue_80 : decode cX12_setValue 80 = .ok (.aload_n 0, 1) := by decide +kernel
theorem dX12_setValue_81 : decode cX12_setValue 81 = .ok (.iload 6, 2) := by decide +kernel
theorem dX12_setValue_83 : decode cX12_setValue 83 = .ok (.iload 7, 2) := by decide +kernel
theorem dX12_setValue_85 : decode cX12_setValue 85 = .ok (.iconst 1, 1) := by decide +kernel
theorem dX12_setValue_86 : decode cX12_setValue 86 = .ok (.invokevirtual 298, 3) := by decide +kernel
theorem dX12_setValue_89 : decode cX12_setValue 89 = .ok (.ifCond .eq 41, 3) := by decide +kernel
theorem dX12_setValue_92 : decode cX12_setValue 92 = .ok (.bipush 10, 2) := by decide +kernel
theorem dX12_setValue_94 : decode cX12_setValue 94 = .ok (.aload_n 0, 1) := by decide +kernel
theorem dX12_setValue_95 : decode cX12_setValue 95 = .ok (.iload_n 1, 1) := by decide +kernel
theorem dX12_setValue_96 : decode cX12_setValue 96 = .ok (.invokevirtual 323, 3) := by decide +kernel
theorem dX12_setValue_99 : decode cX12_setValue 99 = .ok (.imul, 1) := by decide +kernel
theorem dX12_setValue_100 : decode cX12_setValue 100 = .ok (.iload_n 2, 1) := by decide +kernel
theorem dX12_setValue_101 : decode cX12_setValue 101 = .ok (.iadd, 1) := by decide +kernel
theorem dX12_setValue_102 : decode cX12_setValue 102 = .ok (.istore 8, 2) := by decide +kernel
theorem dX12_setValue_104 : decode cX12_setValue 104 = .ok (.aload_n 0, 1) := by decide +kernel
theorem dX12_setValue_105 : decode cX12_setValue 105 = .ok (.getfield 46, 3) := by decide +kernel
theorem dX12_setValue_108 : decode cX12_setValue 108 = .ok (.iload 8, 2) := by decide +kernel
theorem dX12_setValue_110 : decode cX12_setValue 110 = .ok (.iload_n 3, 1) := by decide +kernel
theorem dX12_setValue_111 : decode cX12_setValue 111 = .ok (.iastore, 1) := by decide +kernel
theorem dX12_setValue_112 : decode cX12_setValue 112 = .ok (.aload_n 0, 1) := by decide +kernel
theorem dX12_setValue_113 : decode cX12_setValue 113 = .ok (.getfield 49, 3) := by decide +kernel
theorem dX12_setValue_116 : decode cX12_setValue 116 = .ok (.iload 8, 2) := by decide +kernel
theorem dX12_setValue_118 : decode cX12_setValue 118 = .ok (.iload 4, 2) := by decide +kernel
theorem dX12_setValue_120 : decode cX12_setValue 120 = .ok (.iastore, 1) := by decide +kernel
theorem dX12_setValue_121 : decode cX12_setValue 121 = .ok (.aload_n 0, 1) := by decide +kernel
theorem dX12_setValue_122 : decode cX12_setValue 122 = .ok (.getfield 52, 3) := by decide +kernel
theorem dX12_setValue_125 : decode cX12_setValue 125 = .ok (.iload 8, 2) := by decide +kernel
theorem dX12_setValue_127 : decode cX12_setValue 127 = .ok (.iload 5, 2) := by decide +kernel
theorem dX12_setValue_129 : decode cX12_setValue 129 = .ok (.iastore, 1) := by decide +kernel
theorem dX12_setValue_130 : decode cX12_setValue 130 = .ok (.return_, 1) := by decide +kernel
theorem dX12_remove_0 : decode cX12_remove 0 = .ok (.aload_n 0, 1) := by decide +kernel
theorem dX12_remove_1 : decode cX12_remove 1 = .ok (.aload_n 0, 1) := by decide +kernel
theorem dX12_remove_2 : decode cX12_remove 2 = .ok (.iload_n 1, 1) := by decide +kernel
theorem dX12_remove_3 : decode cX12_remove 3 = .ok (.invokevirtual 320, 3) := by decide +kernel
theorem dX12_remove_6 : decode cX12_remove 6 = .ok (.iload_n 2, 1) := by decide +kernel
theorem dX12_remove_7 : decode cX12_remove 7 = .ok (.invokestatic 302, 3) := by decide +kernel
theorem dX12_remove_10 : decode cX12_remove 10 = .ok (.iconst 1, 1) := by decide +kernel
theorem dX12_remove_11 : decode cX12_remove 11 = .ok (.invokevirtual 298, 3) := by decide +kernel
theorem dX12_remove_14 : decode cX12_remove 14 = .ok (.ifCond .ne 5, 3) := by decide +kernel
theorem dX12_remove_17 : decode cX12_remove 17 = .ok (.iconst 0, 1) := by decide +kernel
theorem dX12_remove_18 : decode cX12_remove 18 = .ok (.ireturn, 1) := by decide +kernel
theorem dX12_remove_19 : decode cX12_remove 19 = .ok (.bipush 10, 2) := by decide +kernel
theorem dX12_remove_21 : decode cX12_remove 21 = .ok (.aload_n 0, 1) := by decide +kernel
theorem dX12_remove_22 : decode cX12_remove 22 = .ok (.iload_n 1, 1) := by decide +kernel
theorem dX12_remove_23 : decode cX12_remove 23 = .ok (.invokevirtual 323, 3) := by decide +kernel
theorem dX12_remove_26 : decode cX12_remove 26 = .ok (.imul, 1) := by decide +kernel
theorem dX12_remove_27 : decode cX12_remove 27 = .ok (.iload_n 2, 1) := by decide +kernel
theorem dX12_remove_28 : decode cX12_remove 28 = .ok (.iadd, 1) := by decide +kernel
theorem dX12_remove_29 : decode cX12_remove 29 = .ok (.istore_n 3, 1) := by decide +kernel
theorem dX12_remove_30 : decode cX12_remove 30 = .ok (.aload_n 0, 1) := by decide +kernel
theorem dX12_remove_31 : decode cX12_remove 31 = .ok (.getfield 46, 3) := by decide +kernel
theorem dX12_remove_34 : decode cX12_remove 34 = .ok (.iload_n 3, 1) := by decide +kernel
theorem dX12_remove_35 : decode cX12_remove 35 = .ok (.iaload, 1) := by decide +kernel
theorem dX12_remove_36 : decode cX12_remove 36 = .ok (.iconst (-1), 1) := by decide +kernel
theorem dX12_remove_37 : decode cX12_remove 37 = .ok (.if_icmp .eq 7, 3) := by decide +kernel
theorem dX12_remove_40 : decode cX12_remove 40 = .ok (.iconst 1, 1) := by decide +kernel
theorem dX12_remove_41 : decode cX12_remove 41 = .ok (.goto 4, 3) := by decide +kernel
theorem dX12_remove_44 : decode cX12_remove 44 = .ok (.iconst 0, 1) := by decide +kernel
theorem dX12_remove_45 : decode cX12_remove 45 = .ok (.istore 4, 2) := by decide +kernel
theorem dX12_remove_47 : decode cX12_remove 47 = .ok (.aload_n 0, 1) := by decide +kernel
theorem dX12_remove_48 : decode cX12_remove 48 = .ok (.getfield 46, 3) := by decide +kernel
theorem dX12_remove_51 : decode cX12_remove 51 = .ok (.iload_n 3, 1) := by decide +kernel
theorem dX12_remove_52 : decode cX12_remove 52 = .ok (.iconst (-1), 1) := by decide +kernel
theorem dX12_remove_53 : decode cX12_remove 53 = .ok (.iastore, 1) := by decide +kernel
theorem dX12_remove_54 : decode cX12_remove 54 = .ok (.iload 4, 2) := by decide +kernel
theorem dX12_remove_56 : decode cX12_remove 56 = .ok (.ireturn, 1) := by decide +kernel
theorem dX12_nodeOf_0 : decode cX12_nodeOf 0 = .ok (.aload_n 0, 1) := by decide +kernel
theorem dX12_nodeOf_1 : decode cX12_nodeOf 1 = .ok (.getfield 55, 3) := by decide +kernel
theorem dX12_nodeOf_4 : decode cX12_nodeOf 4 = .ok (.aload_n 0, 1) := by decide +kernel
theorem dX12_nodeOf_5 : decode cX12_nodeOf 5 = .ok (.getfield 288, 3) := by decide +kernel
theorem dX12_nodeOf_8 : decode cX12_nodeOf 8 = .ok (.iload_n 1, 1) := by decide +kernel
theorem dX12_nodeOf_9 : decode cX12_nodeOf 9 = .ok (.iastore, 1) := by decide +kernel
theorem dX12_nodeOf_10 : decode cX12_nodeOf 10 = .ok (.aload_n 0, 1) := by decide +kernel
theorem dX12_nodeOf_11 : decode cX12_nodeOf 11 = .ok (.getfield 58, 3) := by decide +kernel
theorem dX12_nodeOf_14 : decode cX12_nodeOf 14 = .ok (.aload_n 0, 1) := by decide +kernel
theorem dX12_nodeOf_15 : decode cX12_nodeOf 15 = .ok (.getfield 288, 3) := by decide +kernel
theorem dX12_nodeOf_18 : decode cX12_nodeOf 18 = .ok (.iload_n 2, 1) := by decide +kernel
theorem dX12_nodeOf_19 : decode cX12_nodeOf 19 = .ok (.iastore, 1) := by decide +kernel
theorem dX12_nodeOf_20 : decode cX12_nodeOf 20 = .ok (.aload_n 0, 1) := by decide +kernel
theorem dX12_nodeOf_21 : decode cX12_nodeOf 21 = .ok (.getfield 61, 3) := by decide +kernel
theorem dX12_nodeOf_24 : decode cX12_nodeOf 24 = .ok (.aload_n 0, 1) := by decide +kernel
theorem dX12_nodeOf_25 : decode cX12_nodeOf 25 = .ok (.getfield 288, 3) := by decide +kernel
theorem dX12_nodeOf_28 : decode cX12_nodeOf 28 = .ok (.iload_n 3, 1) := by decide +kernel
theorem dX12_nodeOf_29 : decode cX12_nodeOf 29 = .ok (.iastore, 1) := by decide +kernel
theorem dX12_nodeOf_30 : decode cX12_nodeOf 30 = .ok (.aload_n 0, 1) := by decide +kernel
theorem dX12_nodeOf_31 : decode cX12_nodeOf 31 = .ok (.getfield 64, 3) := by decide +kernel
theorem dX12_nodeOf_34 : decode cX12_nodeOf 34 = .ok (.aload_n 0, 1) := by decide +kernel
theorem dX12_nodeOf_35 : decode cX12_nodeOf 35 = .ok (.getfield 288, 3) := by decide +kernel
theorem dX12_nodeOf_38 : decode cX12_nodeOf 38 = .ok (.iload 4, 2) := by decide +kernel
theorem dX12_nodeOf_40 : decode cX12_nodeOf 40 = .ok (.iastore, 1) := by decide +kernel
theorem dX12_nodeOf_41 : decode cX12_nodeOf 41 = .ok (.aload_n 0, 1) := by decide +kernel
theorem dX12_nodeOf_42 : decode cX12_nodeOf 42 = .ok (.getfield 67, 3) := by decide +kernel
theorem dX12_nodeOf_45 : decode cX12_nodeOf 45 = .ok (.aload_n 0, 1) := by decide +kernel
theorem dX12_nodeOf_46 : decode cX12_nodeOf 46 = .ok (.getfield 288, 3) := by decide +kernel
theorem dX12_nodeOf_49 : decode cX12_nodeOf 49 = .ok (.iload 5, 2) := by decide +kernel
theorem dX12_nodeOf_51 : decode cX12_nodeOf 51 = .ok (.iastore, 1) := by decide +kernel
theorem dX12_nodeOf_52 : decode cX12_nodeOf 52 = .ok (.aload_n 0, 1) := by decide +kernel
theorem dX12_nodeOf_53 : decode cX12_nodeOf 53 = .ok (.getfield 70, 3) := by decide +kernel
theorem dX12_nodeOf_56 : decode cX12_nodeOf 56 = .ok (.aload_n 0, 1) := by decide +kernel
theorem dX12_nodeOf_57 : decode cX12_nodeOf 57 = .ok (.getfield 288, 3) := by decide +kernel
theorem dX12_nodeOf_60 : decode cX12_nodeOf 60 = .ok (.iload 6, 2) := by decide +kernel
theorem dX12_nodeOf_62 : decode cX12_nodeOf 62 = .ok (.bastore, 1) := by decide +kernel
theorem dX12_nodeOf_63 : decode cX12_nodeOf 63 = .ok (.aload_n 0, 1) := by decide +kernel
theorem dX12_nodeOf_64 : decode cX12_nodeOf 64 = .ok (.dup, 1) := by decide +kernel
theorem dX12_nodeOf_65 : decode cX12_nodeOf 65 = .ok (.getfield 288, 3) := by decide +kernel
theorem dX12_nodeOf_68 : decode cX12_nodeOf 68 = .ok (.iconst 1, 1) := by decide +kernel
theorem dX12_nodeOf_69 : decode cX12_nodeOf 69 = .ok (.iadd, 1) := by decide +kernel
theorem dX12_nodeOf_70 : decode cX12_nodeOf 70 = .ok (.putfield 288, 3) := by decide +kernel
theorem dX12_nodeOf_73 : decode cX12_nodeOf 73 = .ok (.aload_n 0, 1) := by decide +kernel
theorem dX12_nodeOf_74 : decode cX12_nodeOf 74 = .ok (.getfield 288, 3) := by decide +kernel
theorem dX12_nodeOf_77 : decode cX12_nodeOf 77 = .ok (.iconst 1, 1) := by decide +kernel
theorem dX12_nodeOf_78 : decode cX12_nodeOf 78 = .ok (.isub, 1) := by decide +kernel
theorem dX12_nodeOf_79 : decode cX12_nodeOf 79 = .ok (.ireturn, 1) := by decide +kernel
theorem dX12_unitNode_0 : decode cX12_unitNode 0 = .ok (.aload_n 0, 1) := by decide +kernel
theorem dX12_unitNode_1 : decode cX12_unitNode 1 = .ok (.iload_n 1, 1) := by decide +kernel
theorem dX12_unitNode_2 : decode cX12_unitNode 2 = .ok (.invokevirtual 320, 3) := by decide +kernel
theorem dX12_unitNode_5 : decode cX12_unitNode 5 = .ok (.ifCond .eq 28, 3) := by decide +kernel
theorem dX12_unitNode_8 : decode cX12_unitNode 8 = .ok (.iload_n 2, 1) := by decide +kernel
theorem dX12_unitNode_9 : decode cX12_unitNode 9 = .ok (.iconst (-1), 1) := by decide +kernel
theorem dX12_unitNode_10 : decode cX12_unitNode 10 = .ok (.if_icmp .eq 19, 3) := by decide +kernel
theorem dX12_unitNode_13 : decode cX12_unitNode 13 = .ok (.iload_n 2, 1) := by decide +kernel
theorem dX12_unitNode_14 : decode cX12_unitNode 14 = .ok (.iconst 0, 1) := by decide +kernel
theorem dX12_unitNode_15 : decode cX12_unitNode 15 = .ok (.aload_n 0, 1) := by decide +kernel
theorem dX12_unitNode_16 : decode cX12_unitNode 16 = .ok (.getfield 40, 3) := by decide +kernel
theorem dX12_unitNode_19 : decode cX12_unitNode 19 = .ok (.iload_n 1, 1) := by decide +kernel
theorem dX12_unitNode_20 : decode cX12_unitNode 20 = .ok (.iaload, 1) := by decide +kernel
theorem dX12_unitNode_21 : decode cX12_unitNode 21 = .ok (.iconst 1, 1) := by decide +kernel
theorem dX12_unitNode_22 : decode cX12_unitNode 22 = .ok (.isub, 1) := by decide +kernel
theorem dX12_unitNode_23 : decode cX12_unitNode 23 = .ok (.invokestatic 278, 3) := by decide +kernel
theorem dX12_unitNode_26 : decode cX12_unitNode 26 = .ok (.ifCond .eq 7, 3) := by decide +kernel
theorem dX12_unitNode_29 : decode cX12_unitNode 29 = .ok (.iconst 1, 1) := by decide +kernel
theorem dX12_unitNode_30 : decode cX12_unitNode 30 = .ok (.goto 4, 3) := by decide +kernel
theorem dX12_unitNode_33 : decode cX12_unitNode 33 = .ok (.iconst 0, 1) := by decide +kernel
theorem dX12_unitNode_34 : decode cX12_unitNode 34 = .ok (.istore_n 3, 1) := by decide +kernel
theorem dX12_unitNode_35 : decode cX12_unitNode 35 = .ok (.aload_n 0, 1) := by decide +kernel
theorem dX12_unitNode_36 : decode cX12_unitNode 36 = .ok (.iload_n 3, 1) := by decide +kernel
theorem dX12_unitNode_37 : decode cX12_unitNode 37 = .ok (.aload_n 0, 1) := by decide +kernel
theorem dX12_unitNode_38 : decode cX12_unitNode 38 = .ok (.getfield 288, 3) := by decide +kernel
theorem dX12_unitNode_41 : decode cX12_unitNode 41 = .ok (.bipush 40, 2) := by decide +kernel
theorem dX12_unitNode_43 : decode cX12_unitNode 43 = .ok (.if_icmp .ge 7, 3) := by decide +kernel
theorem dX12_unitNode_46 : decode cX12_unitNode 46 = .ok (.iconst 1, 1) := by decide +kernel
theorem dX12_unitNode_47 : decode cX12_unitNode 47 = .ok (.goto 4, 3) := by decide +kernel
theorem dX12_unitNode_50 : decode cX12_unitNode 50 = .ok (.iconst 0, 1) := by decide +kernel
theorem dX12_unitNode_51 : decode cX12_unitNode 51 = .ok (.iconst 1, 1) := by decide +kernel
theorem dX12_unitNode_52 : decode cX12_unitNode 52 = .ok (.invokevirtual 298, 3) := by decide +kernel
theorem dX12_unitNode_55 : decode cX12_unitNode 55 = .ok (.ifCond .eq 16, 3) := by decide +kernel
theorem dX12_unitNode_58 : decode cX12_unitNode 58 = .ok (.aload_n 0, 1) := by decide +kernel
theorem dX12_unitNode_59 : decode cX12_unitNode 59 = .ok (.iconst 0, 1) := by decide +kernel
theorem dX12_unitNode_60 : decode cX12_unitNode 60 = .ok (.iload_n 1, 1) := by decide +kernel
theorem dX12_unitNode_61 : decode cX12_unitNode 61 = .ok (.iload_n 2, 1) := by decide +kernel
theorem dX12_unitNode_62 : decode cX12_unitNode 62 = .ok (.iconst 0, 1) := by decide +kernel
theorem dX12_unitNode_63 : decode cX12_unitNode 63 = .ok (.iconst 1, 1) := by decide +kernel
theorem dX12_unitNode_64 : decode cX12_unitNode 64 = .ok (.iconst 0, 1) := by decide +kernel
theorem dX12_unitNode_65 : decode cX12_unitNode 65 = .ok (.invokevirtual 326, 3) := by decide +kernel
theorem dX12_unitNode_68 : decode cX12_unitNode 68 = .ok (.goto 4, 3) := by decide +kernel
theorem dX12_unitNode_71 : decode cX12_unitNode 71 = .ok (.iconst 0, 1) := by decide +kernel
theorem dX12_unitNode_72 : decode cX12_unitNode 72 = .ok (.ireturn, 1) := by decide +kernel
theorem dX12_node_0 : decode cX12_node 0 = .ok (.aload_n 0, 1) := by decide +kernel
theorem dX12_node_1 : decode cX12_node 1 = .ok (.iload_n 2, 1) := by decide +kernel
theorem dX12_node_2 : decode cX12_node 2 = .ok (.invokevirtual 330, 3) := by decide +kernel
theorem dX12_node_5 : decode cX12_node 5 = .ok (.ifCond .eq 15, 3) := by decide +kernel
theorem dX12_node_8 : decode cX12_node 8 = .ok (.aload_n 0, 1) := by decide +kernel
theorem dX12_node_9 : decode cX12_node 9 = .ok (.iload_n 3, 1) := by decide +kernel
theorem dX12_node_10 : decode cX12_node 10 = .ok (.invokevirtual 330, 3) := by decide +kernel
theorem dX12_node_13 : decode cX12_node 13 = .ok (.ifCond .eq 7, 3) := by decide +kernel
theorem dX12_node_16 : decode cX12_node 16 = .ok (.iconst 1, 1) := by decide +kernel
theorem dX12_node_17 : decode cX12_node 17 = .ok (.goto 4, 3) := by decide +kernel
theorem dX12_node_20 : decode cX12_node 20 = .ok (.iconst 0, 1) := by decide +kernel
theorem dX12_node_21 : decode cX12_node 21 = .ok (.istore 5, 2) := by decide +kernel
theorem dX12_node_23 : decode cX12_node 23 = .ok (.iload 5, 2) := by decide +kernel
theorem dX12_node_25 : decode cX12_node 25 = .ok (.ifCond .eq 21, 3) := by decide +kernel
theorem dX12_node_28 : decode cX12_node 28 = .ok (.iconst 1, 1) := by decide +kernel
theorem dX12_node_29 : decode cX12_node 29 = .ok (.aload_n 0, 1) := by decide +kernel
theorem dX12_node_30 : decode cX12_node 30 = .ok (.getfield 67, 3) := by decide +kernel
theorem dX12_node_33 : decode cX12_node 33 = .ok (.iload_n 2, 1) := by decide +kernel
theorem dX12_node_34 : decode cX12_node 34 = .ok (.iaload, 1) := by decide +kernel
theorem dX12_node_35 : decode cX12_node 35 = .ok (.iadd, 1) := by decide +kernel
theorem dX12_node_36 : decode cX12_node 36 = .ok (.aload_n 0, 1) := by decide +kernel
theorem dX12_node_37 : decode cX12_node 37 = .ok (.getfield 67, 3) := by decide +kernel
theorem dX12_node_40 : decode cX12_node 40 = .ok (.iload_n 3, 1) := by decide +kernel
theorem dX12_node_41 : decode cX12_node 41 = .ok (.iaload, 1) := by decide +kernel
theorem dX12_node_42 : decode cX12_node 42 = .ok (.iadd, 1) := by decide +kernel
theorem dX12_node_43 : decode cX12_node 43 = .ok (.goto 4, 3) := by decide +kernel
theorem dX12_node_46 : decode cX12_node 46 = .ok (.iconst 1, 1) := by decide +kernel
theorem dX12_node_47 : decode cX12_node 47 = .ok (.istore 6, 2) := by decide +kernel
theorem dX12_node_49 : decode cX12_node 49 = .ok (.aload_n 0, 1) := by decide +kernel
theorem dX12_node_50 : decode cX12_node 50 = .ok (.iload_n 1, 1) := by decide +kernel
theorem dX12_node_51 : decode cX12_node 51 = .ok (.iconst 0, 1) := by decide +kernel
theorem dX12_node_52 : decode cX12_node 52 = .ok (.iconst 2, 1) := by decide +kernel
theorem dX12_node_53 : decode cX12_node 53 = .ok (.invokestatic 278, 3) := by decide +kernel
theorem dX12_node_56 : decode cX12_node 56 = .ok (.iload 5, 2) := by decide +kernel
theorem dX12_node_58 : decode cX12_node 58 = .ok (.aload_n 0, 1) := by decide +kernel
theorem dX12_node_59 : decode cX12_node 59 = .ok (.getfield 288, 3) := by decide +kernel
theorem dX12_node_62 : decode cX12_node 62 = .ok (.bipush 40, 2) := by decide +kernel
theorem dX12_node_64 : decode cX12_node 64 = .ok (.if_icmp .ge 14, 3) := by decide +kernel
theorem dX12_node_67 : decode cX12_node 67 = .ok (.iload 6, 2) := by decide +kernel
theorem dX12_node_69 : decode cX12_node 69 = .ok (.bipush 24, 2) := by decide +kernel
theorem dX12_node_71 : decode cX12_node 71 = .ok (.if_icmp .gt 7, 3) := by decide +kernel
theorem dX12_node_74 : decode cX12_node 74 = .ok (.iconst 1, 1) := by decide +kernel
theorem dX12_node_75 : decode cX12_node 75 = .ok (.goto 4, 3) := by decide +kernel
theorem dX12_node_78 : decode cX12_node 78 = .ok (.iconst 0, 1) := by decide +kernel
theorem dX12_node_79 : decode cX12_node 79 = .ok (.invokevirtual 298, 3) := by decide +kernel
theorem dX12_node_82 : decode cX12_node 82 = .ok (.ifCond .ne 5, 3) := by decide +kernel
theorem dX12_node_85 : decode cX12_node 85 = .ok (.iconst 0, 1) := by decide +kernel
theorem dX12_node_86 : decode cX12_node 86 = .ok (.ireturn, 1) := by decide +kernel
theorem dX12_node_87 : decode cX12_node 87 = .ok (.aload_n 0, 1) := by decide +kernel
theorem dX12_node_88 : decode cX12_node 88 = .ok (.iload_n 1, 1) := by decide +kernel
theorem dX12_node_89 : decode cX12_node 89 = .ok (.iconst 1, 1) := by decide +kernel
theorem dX12_node_90 : decode cX12_node 90 = .ok (.iadd, 1) := by decide +kernel
theorem dX12_node_91 : decode cX12_node 91 = .ok (.iload_n 2, 1) := by decide +kernel
theorem dX12_node_92 : decode cX12_node 92 = .ok (.iload_n 3, 1) := by decide +kernel
theorem dX12_node_93 : decode cX12_node 93 = .ok (.iconst 0, 1) := by decide +kernel
theorem dX12_node_94 : decode cX12_node 94 = .ok (.iload 6, 2) := by decide +kernel
theorem dX12_node_96 : decode cX12_node 96 = .ok (.iload 4, 2) := by decide +kernel
theorem dX12_node_98 : decode cX12_node 98 = .ok (.ifCond .eq 11, 3) := by decide +kernel
theorem dX12_node_101 : decode cX12_node 101 = .ok (.iload_n 1, 1) := by decide +kernel
theorem dX12_node_102 : decode cX12_node 102 = .ok (.ifCond .le 7, 3) := by decide +kernel
theorem dX12_node_105 : decode cX12_node 105 = .ok (.iconst 1, 1) := by decide +kernel
theorem dX12_node_106 : decode cX12_node 106 = .ok (.goto 4, 3) := by decide +kernel
theorem dX12_node_109 : decode cX12_node 109 = .ok (.iconst 0, 1) := by decide +kernel
theorem dX12_node_110 : decode cX12_node 110 = .ok (.invokevirtual 326, 3) := by decide +kernel
theorem dX12_node_113 : decode cX12_node 113 = .ok (.ireturn, 1) := by decide +kernel
theorem dX12_choose_0 : decode cX12_choose 0 = .ok (.aload_n 0, 1) := by decide +kernel
theorem dX12_choose_1 : decode cX12_choose 1 = .ok (.iload_n 1, 1) := by decide +kernel
theorem dX12_choose_2 : decode cX12_choose 2 = .ok (.invokevirtual 330, 3) := by decide +kernel
theorem dX12_choose_5 : decode cX12_choose 5 = .ok (.ifCond .eq 23, 3) := by decide +kernel
theorem dX12_choose_8 : decode cX12_choose 8 = .ok (.aload_n 0, 1) := by decide +kernel
theorem dX12_choose_9 : decode cX12_choose 9 = .ok (.iload_n 2, 1) := by decide +kernel
theorem dX12_choose_10 : decode cX12_choose 10 = .ok (.invokevirtual 330, 3) := by decide +kernel
theorem dX12_choose_13 : decode cX12_choose 13 = .ok (.ifCond .eq 15, 3) := by decide +kernel
theorem dX12_choose_16 : decode cX12_choose 16 = .ok (.aload_n 0, 1) := by decide +kernel
theorem dX12_choose_17 : decode cX12_choose 17 = .ok (.iload_n 3, 1) := by decide +kernel
theorem dX12_choose_18 : decode cX12_choose 18 = .ok (.invokevirtual 330, 3) := by decide +kernel
theorem dX12_choose_21 : decode cX12_choose 21 = .ok (.ifCond .eq 7, 3) := by decide +kernel
theorem dX12_choose_24 : decode cX12_choose 24 = .ok (.iconst 1, 1) := by decide +kernel
theorem dX12_choose_25 : decode cX12_choose 25 = .ok (.goto 4, 3) := by decide +kernel
theorem dX12_choose_28 : decode cX12_choose 28 = .ok (.iconst 0, 1) := by decide +kernel
theorem dX12_choose_29 : decode cX12_choose 29 = .ok (.istore 4, 2) := by decide +kernel
theorem dX12_choose_31 : decode cX12_choose 31 = .ok (.iload 4, 2) := by decide +kernel
theorem dX12_choose_33 : decode cX12_choose 33 = .ok (.ifCond .eq 28, 3) := by decide +kernel
theorem dX12_choose_36 : decode cX12_choose 36 = .ok (.iconst 1, 1) := by decide +kernel
theorem dX12_choose_37 : decode cX12_choose 37 = .ok (.aload_n 0, 1) := by decide +kernel
theorem dX12_choose_38 : decode cX12_choose 38 = .ok (.getfield 67, 3) := by decide +kernel
theorem dX12_choose_41 : decode cX12_choose 41 = .ok (.iload_n 1, 1) := by decide +kernel
theorem dX12_choose_42 : decode cX12_choose 42 = .ok (.iaload, 1) := by decide +kernel
theorem dX12_choose_43 : decode cX12_choose 43 = .ok (.iadd, 1) := by decide +kernel
theorem dX12_choose_44 : decode cX12_choose 44 = .ok (.aload_n 0, 1) := by decide +kernel
theorem dX12_choose_45 : decode cX12_choose 45 = .ok (.getfield 67, 3) := by decide +kernel
theorem dX12_choose_48 : decode cX12_choose 48 = .ok (.iload_n 2, 1) := by decide +kernel
theorem dX12_choose_49 : decode cX12_choose 49 = .ok (.iaload, 1) := by decide +kernel
theorem dX12_choose_50 : decode cX12_choose 50 = .ok (.iadd, 1) := by decide +kernel
theorem dX12_choose_51 : decode cX12_choose 51 = .ok (.aload_n 0, 1) := by decide +kernel
theorem dX12_choose_52 : decode cX12_choose 52 = .ok (.getfield 67, 3) := by decide +kernel
theorem dX12_choose_55 : decode cX12_choose 55 = .ok (.iload_n 3, 1) := by decide +kernel
theorem dX12_choose_56 : decode cX12_choose 56 = .ok (.iaload, 1) := by decide +kernel
theorem dX12_choose_57 : decode cX12_choose 57 = .ok (.iadd, 1) := by decide +kernel
theorem dX12_choose_58 : decode cX12_choose 58 = .ok (.goto 4, 3) := by decide +kernel
theorem dX12_choose_61 : decode cX12_choose 61 = .ok (.iconst 1, 1) := by decide +kernel
theorem dX12_choose_62 : decode cX12_choose 62 = .ok (.istore 5, 2) := by decide +kernel
theorem dX12_choose_64 : decode cX12_choose 64 = .ok (.aload_n 0, 1) := by decide +kernel
theorem dX12_choose_65 : decode cX12_choose 65 = .ok (.iload 4, 2) := by decide +kernel
theorem dX12_choose_67 : decode cX12_choose 67 = .ok (.aload_n 0, 1) := by decide +kernel
theorem dX12_choose_68 : decode cX12_choose 68 = .ok (.getfield 288, 3) := by decide +kernel
theorem dX12_choose_71 : decode cX12_choose 71 = .ok (.bipush 40, 2) := by decide +kernel
theorem dX12_choose_73 : decode cX12_choose 73 = .ok (.if_icmp .ge 14, 3) := by decide +kernel
theorem dX12_choose_76 : decode cX12_choose 76 = .ok (.iload 5, 2) := by decide +kernel
theorem dX12_choose_78 : decode cX12_choose 78 = .ok (.bipush 24, 2) := by decide +kernel
theorem dX12_choose_80 : decode cX12_choose 80 = .ok (.if_icmp .gt 7, 3) := by decide +kernel
theorem dX12_choose_83 : decode cX12_choose 83 = .ok (.iconst 1, 1) := by decide +kernel
theorem dX12_choose_84 : decode cX12_choose 84 = .ok (.goto 4, 3) := by decide +kernel
theorem dX12_choose_87 : decode cX12_choose 87 = .ok (.iconst 0, 1) := by decide +kernel
theorem dX12_choose_88 : decode cX12_choose 88 = .ok (.iconst 1, 1) := by decide +kernel
theorem dX12_choose_89 : decode cX12_choose 89 = .ok (.invokevirtual 298, 3) := by decide +kernel
theorem dX12_choose_92 : decode cX12_choose 92 = .ok (.ifCond .eq 17, 3) := by decide +kernel
theorem dX12_choose_95 : decode cX12_choose 95 = .ok (.aload_n 0, 1) := by decide +kernel
theorem dX12_choose_96 : decode cX12_choose 96 = .ok (.iconst 4, 1) := by decide +kernel
theorem dX12_choose_97 : decode cX12_choose 97 = .ok (.iload_n 1, 1) := by decide +kernel
theorem dX12_choose_98 : decode cX12_choose 98 = .ok (.iload_n 2, 1) := by decide +kernel
theorem dX12_choose_99 : decode cX12_choose 99 = .ok (.iload_n 3, 1) := by decide +kernel
theorem dX12_choose_100 : decode cX12_choose 100 = .ok (.iload 5, 2) := by decide +kernel
theorem dX12_choose_102 : decode cX12_choose 102 = .ok (.iconst 0, 1) := by decide +kernel
theorem dX12_choose_103 : decode cX12_choose 103 = .ok (.invokevirtual 326, 3) := by decide +kernel
theorem dX12_choose_106 : decode cX12_choose 106 = .ok (.goto 4, 3) := by decide +kernel
theorem dX12_choose_109 : decode cX12_choose 109 = .ok (.iconst 0, 1) := by decide +kernel
theorem dX12_choose_110 : decode cX12_choose 110 = .ok (.ireturn, 1) := by decide +kernel
theorem dX12_rename_0 : decode cX12_rename 0 = .ok (.aload_n 0, 1) := by decide +kernel
theorem dX12_rename_1 : decode cX12_rename 1 = .ok (.iload_n 1, 1) := by decide +kernel
theorem dX12_rename_2 : decode cX12_rename 2 = .ok (.invokevirtual 330, 3) := by decide +kernel
theorem dX12_rename_5 : decode cX12_rename 5 = .ok (.istore 4, 2) := by decide +kernel
theorem dX12_rename_7 : decode cX12_rename 7 = .ok (.iload_n 2, 1) := by decide +kernel
theorem dX12_rename_8 : decode cX12_rename 8 = .ok (.invokestatic 302, 3) := by decide +kernel
theorem dX12_rename_11 : decode cX12_rename 11 = .ok (.ifCond .eq 24, 3) := by decide +kernel
theorem dX12_rename_14 : decode cX12_rename 14 = .ok (.iload_n 3, 1) := by decide +kernel
theorem dX12_rename_15 : decode cX12_rename 15 = .ok (.iconst (-1), 1) := by decide +kernel
theorem dX12_rename_16 : decode cX12_rename 16 = .ok (.if_icmp .eq 10, 3) := by decide +kernel
theorem dX12_rename_19 : decode cX12_rename 19 = .ok (.iload_n 3, 1) := by decide +kernel
theorem dX12_rename_20 : decode cX12_rename 20 = .ok (.invokestatic 302, 3) := by decide +kernel
theorem dX12_rename_23 : decode cX12_rename 23 = .ok (.ifCond .eq 12, 3) := by decide +kernel
theorem dX12_rename_26 : decode cX12_rename 26 = .ok (.iload_n 2, 1) := by decide +kernel
theorem dX12_rename_27 : decode cX12_rename 27 = .ok (.iload_n 3, 1) := by decide +kernel
theorem dX12_rename_28 : decode cX12_rename 28 = .ok (.if_icmp .eq 7, 3) := by decide +kernel
theorem dX12_rename_31 : decode cX12_rename 31 = .ok (.iconst 1, 1) := by decide +kernel
theorem dX12_rename_32 : decode cX12_rename 32 = .ok (.goto 4, 3) := by decide +kernel
theorem dX12_rename_35 : decode cX12_rename 35 = .ok (.iconst 0, 1) := by decide +kernel
theorem dX12_rename_36 : decode cX12_rename 36 = .ok (.istore 5, 2) := by decide +kernel
theorem dX12_rename_38 : decode cX12_rename 38 = .ok (.iload 4, 2) := by decide +kernel
theorem dX12_rename_40 : decode cX12_rename 40 = .ok (.ifCond .eq 14, 3) := by decide +kernel
theorem dX12_rename_43 : decode cX12_rename 43 = .ok (.iconst 1, 1) := by decide +kernel
theorem dX12_rename_44 : decode cX12_rename 44 = .ok (.aload_n 0, 1) := by decide +kernel
theorem dX12_rename_45 : decode cX12_rename 45 = .ok (.getfield 67, 3) := by decide +kernel
theorem dX12_rename_48 : decode cX12_rename 48 = .ok (.iload_n 1, 1) := by decide +kernel
theorem dX12_rename_49 : decode cX12_rename 49 = .ok (.iaload, 1) := by decide +kernel
theorem dX12_rename_50 : decode cX12_rename 50 = .ok (.iadd, 1) := by decide +kernel
theorem dX12_rename_51 : decode cX12_rename 51 = .ok (.goto 4, 3) := by decide +kernel
theorem dX12_rename_54 : decode cX12_rename 54 = .ok (.iconst 1, 1) := by decide +kernel
theorem dX12_rename_55 : decode cX12_rename 55 = .ok (.istore 6, 2) := by decide +kernel
theorem dX12_rename_57 : decode cX12_rename 57 = .ok (.aload_n 0, 1) := by decide +kernel
theorem dX12_rename_58 : decode cX12_rename 58 = .ok (.iload 4, 2) := by decide +kernel
theorem dX12_rename_60 : decode cX12_rename 60 = .ok (.iload 5, 2) := by decide +kernel
theorem dX12_rename_62 : decode cX12_rename 62 = .ok (.aload_n 0, 1) := by decide +kernel
theorem dX12_rename_63 : decode cX12_rename 63 = .ok (.getfield 288, 3) := by decide +kernel
theorem dX12_rename_66 : decode cX12_rename 66 = .ok (.bipush 40, 2) := by decide +kernel
theorem dX12_rename_68 : decode cX12_rename 68 = .ok (.if_icmp .ge 14, 3) := by decide +kernel
theorem dX12_rename_71 : decode cX12_rename 71 = .ok (.iload 6, 2) := by decide +kernel
theorem dX12_rename_73 : decode cX12_rename 73 = .ok (.bipush 24, 2) := by decide +kernel
theorem dX12_rename_75 : decode cX12_rename 75 = .ok (.if_icmp .gt 7, 3) := by decide +kernel
theorem dX12_rename_78 : decode cX12_rename 78 = .ok (.iconst 1, 1) := by decide +kernel
theorem dX12_rename_79 : decode cX12_rename 79 = .ok (.goto 4, 3) := by decide +kernel
theorem dX12_rename_82 : decode cX12_rename 82 = .ok (.iconst 0, 1) := by decide +kernel
theorem dX12_rename_83 : decode cX12_rename 83 = .ok (.invokevirtual 298, 3) := by decide +kernel
theorem dX12_rename_86 : decode cX12_rename 86 = .ok (.ifCond .ne 5, 3) := by decide +kernel
theorem dX12_rename_89 : decode cX12_rename 89 = .ok (.iconst 0, 1) := by decide +kernel
theorem dX12_rename_90 : decode cX12_rename 90 = .ok (.ireturn, 1) := by decide +kernel
theorem dX12_rename_91 : decode cX12_rename 91 = .ok (.aload_n 0, 1) := by decide +kernel
theorem dX12_rename_92 : decode cX12_rename 92 = .ok (.iload_n 3, 1) := by decide +kernel
theorem dX12_rename_93 : decode cX12_rename 93 = .ok (.iconst (-1), 1) := by decide +kernel
theorem dX12_rename_94 : decode cX12_rename 94 = .ok (.if_icmp .ne 8, 3) := by decide +kernel
theorem dX12_rename_97 : decode cX12_rename 97 = .ok (.bipush 6, 2) := by decide +kernel
theorem dX12_rename_99 : decode cX12_rename 99 = .ok (.goto 4, 3) := by decide +kernel
theorem dX12_rename_102 : decode cX12_rename 102 = .ok (.iconst 5, 1) := by decide +kernel
theorem dX12_rename_103 : decode cX12_rename 103 = .ok (.iload_n 1, 1) := by decide +kernel
theorem dX12_rename_104 : decode cX12_rename 104 = .ok (.iload_n 2, 1) := by decide +kernel
theorem dX12_rename_105 : decode cX12_rename 105 = .ok (.iload_n 3, 1) := by decide +kernel
theorem dX12_rename_106 : decode cX12_rename 106 = .ok (.iload 6, 2) := by decide +kernel
theorem dX12_rename_108 : decode cX12_rename 108 = .ok (.iconst 0, 1) := by decide +kernel
theorem dX12_rename_109 : decode cX12_rename 109 = .ok (.invokevirtual 326, 3) := by decide +kernel
theorem dX12_rename_112 : decode cX12_rename 112 = .ok (.ireturn, 1) := by decide +kernel
theorem dX12_beginsFulls_0 : decode cX12_beginsFulls 0 = .ok (.aload_n 0, 1) := by decide +kernel
theorem dX12_beginsFulls_1 : decode cX12_beginsFulls 1 = .ok (.iconst 0, 1) := by decide +kernel
theorem dX12_beginsFulls_2 : decode cX12_beginsFulls 2 = .ok (.putfield 333, 3) := by decide +kernel
theorem dX12_beginsFulls_5 : decode cX12_beginsFulls 5 = .ok (.iconst 0, 1) := by decide +kernel
theorem dX12_beginsFulls_6 : decode cX12_beginsFulls 6 = .ok (.istore_n 1, 1) := by decide +kernel
theorem dX12_beginsFulls_7 : decode cX12_beginsFulls 7 = .ok (.iload_n 1, 1) := by decide +kernel
theorem dX12_beginsFulls_8 : decode cX12_beginsFulls 8 = .ok (.sipush 16384, 3) := by decide +kernel
theorem dX12_beginsFulls_11 : decode cX12_beginsFulls 11 = .ok (.if_icmp .ge 16, 3) := by decide +kernel
theorem dX12_beginsFulls_14 : decode cX12_beginsFulls 14 = .ok (.aload_n 0, 1) := by decide +kernel
theorem dX12_beginsFulls_15 : decode cX12_beginsFulls 15 = .ok (.getfield 90, 3) := by decide +kernel
theorem dX12_beginsFulls_18 : decode cX12_beginsFulls 18 = .ok (.iload_n 1, 1) := by decide +kernel
theorem dX12_beginsFulls_19 : decode cX12_beginsFulls 19 = .ok (.iconst (-1), 1) := by decide +kernel
theorem dX12_beginsFulls_20 : decode cX12_beginsFulls 20 = .ok (.iastore, 1) := by decide +kernel
theorem dX12_beginsFulls_21 : decode cX12_beginsFulls 21 = .ok (.iinc 1 1, 3) := by decide +kernel
theorem dX12_beginsFulls_24 : decode cX12_beginsFulls 24 = .ok (.goto (-17), 3) := by decide +kernel
theorem dX12_beginsFulls_27 : decode cX12_beginsFulls 27 = .ok (.return_, 1) := by decide +kernel
theorem dX12_full_0 : decode cX12_full 0 = .ok (.iload_n 1, 1) := by decide +kernel
theorem dX12_full_1 : decode cX12_full 1 = .ok (.bipush 7, 2) := by decide +kernel
theorem dX12_full_3 : decode cX12_full 3 = .ok (.iload_n 2, 1) := by decide +kernel
theorem dX12_full_4 : decode cX12_full 4 = .ok (.imul, 1) := by decide +kernel
theorem dX12_full_5 : decode cX12_full 5 = .ok (.iadd, 1) := by decide +kernel
theorem dX12_full_6 : decode cX12_full 6 = .ok (.sipush 131, 3) := by decide +kernel
theorem dX12_full_9 : decode cX12_full 9 = .ok (.iload_n 3, 1) := by decide +kernel
theorem dX12_full_10 : decode cX12_full 10 = .ok (.imul, 1) := by decide +kernel
theorem dX12_full_11 : decode cX12_full 11 = .ok (.iadd, 1) := by decide +kernel
theorem dX12_full_12 : decode cX12_full 12 = .ok (.ldc_w 336, 3) := by decide +kernel
theorem dX12_full_15 : decode cX12_full 15 = .ok (.iand, 1) := by decide +kernel
theorem dX12_full_16 : decode cX12_full 16 = .ok (.sipush 16384, 3) := by decide +kernel
theorem dX12_full_19 : decode cX12_full 19 = .ok (.irem, 1) := by decide +kernel
theorem dX12_full_20 : decode cX12_full 20 = .ok (.istore 4, 2) := by decide +kernel
theorem dX12_full_22 : decode cX12_full 22 = .ok (.aload_n 0, 1) := by decide +kernel
theorem dX12_full_23 : decode cX12_full 23 = .ok (.getfield 90, 3) := by decide +kernel
theorem dX12_full_26 : decode cX12_full 26 = .ok (.iload 4, 2) := by decide +kernel
theorem dX12_full_28 : decode cX12_full 28 = .ok (.iaload, 1) := by decide +kernel
theorem dX12_full_29 : decode cX12_full 29 = .ok (.istore 5, 2) := by decide +kernel
theorem dX12_full_31 : decode cX12_full 31 = .ok (.iload 5, 2) := by decide +kernel
theorem dX12_full_33 : decode cX12_full 33 = .ok (.iconst (-1), 1) := by decide +kernel
theorem dX12_full_34 : decode cX12_full 34 = .ok (.if_icmp .eq 51, 3) := by decide +kernel
theorem dX12_full_37 : decode cX12_full 37 = .ok (.aload_n 0, 1) := by decide +kernel
theorem dX12_full_38 : decode cX12_full 38 = .ok (.getfield 75, 3) := by decide +kernel
theorem dX12_full_41 : decode cX12_full 41 = .ok (.iload 5, 2) := by decide +kernel
theorem dX12_full_43 : decode cX12_full 43 = .ok (.iaload, 1) := by decide +kernel
theorem dX12_full_44 : decode cX12_full 44 = .ok (.iload_n 1, 1) := by decide +kernel
theorem dX12_full_45 : decode cX12_full 45 = .ok (.if_icmp .ne 28, 3) := by decide +kernel
theorem dX12_full_48 : decode cX12_full 48 = .ok (.aload_n 0, 1) := by decide +kernel
theorem dX12_full_49 : decode cX12_full 49 = .ok (.getfield 78, 3) := by decide +kernel
theorem dX12_full_52 : decode cX12_full 52 = .ok (.iload 5, 2) := by decide +kernel
theorem dX12_full_54 : decode cX12_full 54 = .ok (.iaload, 1) := by decide +kernel
theorem dX12_full_55 : decode cX12_full 55 = .ok (.iload_n 2, 1) := by decide +kernel
theorem dX12_full_56 : decode cX12_full 56 = .ok (.if_icmp .ne 17, 3) := by decide +kernel
theorem dX12_full_59 : decode cX12_full 59 = .ok (.aload_n 0, 1) := by decide +kernel
theorem dX12_full_60 : decode cX12_full 60 = .ok (.getfield 81, 3) := by decide +kernel
theorem dX12_full_63 : decode cX12_full 63 = .ok (.iload 5, 2) := by decide +kernel
theorem dX12_full_65 : decode cX12_full 65 = .ok (.iaload, 1) := by decide +kernel
theorem dX12_full_66 : decode cX12_full 66 = .ok (.iload_n 3, 1) := by decide +kernel
theorem dX12_full_67 : decode cX12_full 67 = .ok (.if_icmp .ne 6, 3) := by decide +kernel
theorem dX12_full_70 : decode cX12_full 70 = .ok (.iload 5, 2) := by decide +kernel
theorem dX12_full_72 : decode cX12_full 72 = .ok (.ireturn, 1) := by decide +kernel
theorem dX12_full_73 : decode cX12_full 73 = .ok (.aload_n 0, 1) := by decide +kernel
theorem dX12_full_74 : decode cX12_full 74 = .ok (.getfield 87, 3) := by decide +kernel
theorem dX12_full_77 : decode cX12_full 77 = .ok (.iload 5, 2) := by decide +kernel
theorem dX12_full_79 : decode cX12_full 79 = .ok (.iaload, 1) := by decide +kernel
theorem dX12_full_80 : decode cX12_full 80 = .ok (.istore 5, 2) := by decide +kernel
theorem dX12_full_82 : decode cX12_full 82 = .ok (.goto (-51), 3) := by decide +kernel
theorem dX12_full_85 : decode cX12_full 85 = .ok (.aload_n 0, 1) := by decide +kernel
theorem dX12_full_86 : decode cX12_full 86 = .ok (.getfield 75, 3) := by decide +kernel
theorem dX12_full_89 : decode cX12_full 89 = .ok (.aload_n 0, 1) := by decide +kernel
theorem dX12_full_90 : decode cX12_full 90 = .ok (.getfield 333, 3) := by decide +kernel
theorem dX12_full_93 : decode cX12_full 93 = .ok (.iload_n 1, 1) := by decide +kernel
theorem dX12_full_94 : decode cX12_full 94 = .ok (.iastore, 1) := by decide +kernel
theorem dX12_full_95 : decode cX12_full 95 = .ok (.aload_n 0, 1) := by decide +kernel
theorem dX12_full_96 : decode cX12_full 96 = .ok (.getfield 78, 3) := by decide +kernel
theorem dX12_full_99 : decode cX12_full 99 = .ok (.aload_n 0, 1) := by decide +kernel
theorem dX12_full_100 : decode cX12_full 100 = .ok (.getfield 333, 3) := by decide +kernel
theorem dX12_full_103 : decode cX12_full 103 = .ok (.iload_n 2, 1) := by decide +kernel
theorem dX12_full_104 : decode cX12_full 104 = .ok (.iastore, 1) := by decide +kernel
theorem dX12_full_105 : decode cX12_full 105 = .ok (.aload_n 0, 1) := by decide +kernel
theorem dX12_full_106 : decode cX12_full 106 = .ok (.getfield 81, 3) := by decide +kernel
theorem dX12_full_109 : decode cX12_full 109 = .ok (.aload_n 0, 1) := by decide +kernel
theorem dX12_full_110 : decode cX12_full 110 = .ok (.getfield 333, 3) := by decide +kernel
theorem dX12_full_113 : decode cX12_full 113 = .ok (.iload_n 3, 1) := by decide +kernel
theorem dX12_full_114 : decode cX12_full 114 = .ok (.iastore, 1) := by decide +kernel
theorem dX12_full_115 : decode cX12_full 115 = .ok (.iload_n 1, 1) := by decide +kernel
theorem dX12_full_116 : decode cX12_full 116 = .ok (.iconst 3, 1) := by decide +kernel
theorem dX12_full_117 : decode cX12_full 117 = .ok (.if_icmp .ne 21, 3) := by decide +kernel
theorem dX12_full_120 : decode cX12_full 120 = .ok (.iconst 1, 1) := by decide +kernel
theorem dX12_full_121 : decode cX12_full 121 = .ok (.aload_n 0, 1) := by decide +kernel
theorem dX12_full_122 : decode cX12_full 122 = .ok (.getfield 84, 3) := by decide +kernel
theorem dX12_full_125 : decode cX12_full 125 = .ok (.iload_n 2, 1) := by decide +kernel
theorem dX12_full_126 : decode cX12_full 126 = .ok (.iaload, 1) := by decide +kernel
theorem dX12_full_127 : decode cX12_full 127 = .ok (.iadd, 1) := by decide +kernel
theorem dX12_full_128 : decode cX12_full 128 = .ok (.aload_n 0, 1) := by decide +kernel
theorem dX12_full_129 : decode cX12_full 129 = .ok (.getfield 84, 3) := by decide +kernel
theorem dX12_full_132 : decode cX12_full 132 = .ok (.iload_n 3, 1) := by decide +kernel
theorem dX12_full_133 : decode cX12_full 133 = .ok (.iaload, 1) := by decide +kernel
theorem dX12_full_134 : decode cX12_full 134 = .ok (.iadd, 1) := by decide +kernel
theorem dX12_full_135 : decode cX12_full 135 = .ok (.goto 4, 3) := by decide +kernel
theorem dX12_full_138 : decode cX12_full 138 = .ok (.iconst 1, 1) := by decide +kernel
theorem dX12_full_139 : decode cX12_full 139 = .ok (.istore 5, 2) := by decide +kernel
theorem dX12_full_141 : decode cX12_full 141 = .ok (.aload_n 0, 1) := by decide +kernel
theorem dX12_full_142 : decode cX12_full 142 = .ok (.getfield 84, 3) := by decide +kernel
theorem dX12_full_145 : decode cX12_full 145 = .ok (.aload_n 0, 1) := by decide +kernel
theorem dX12_full_146 : decode cX12_full 146 = .ok (.getfield 333, 3) := by decide +kernel
theorem dX12_full_149 : decode cX12_full 149 = .ok (.iload 5, 2) := by decide +kernel
theorem dX12_full_151 : decode cX12_full 151 = .ok (.ldc_w 337, 3) := by decide +kernel
theorem dX12_full_154 : decode cX12_full 154 = .ok (.if_icmp .le 9, 3) := by decide +kernel
theorem dX12_full_157 : decode cX12_full 157 = .ok (.ldc_w 337, 3) := by decide +kernel
theorem dX12_full_160 : decode cX12_full 160 = .ok (.goto 5, 3) := by decide +kernel
theorem dX12_full_163 : decode cX12_full 163 = .ok (.iload 5, 2) := by decide +kernel
theorem dX12_full_165 : decode cX12_full 165 = .ok (.iastore, 1) := by decide +kernel
theorem dX12_full_166 : decode cX12_full 166 = .ok (.aload_n 0, 1) := by decide +kernel
theorem dX12_full_167 : decode cX12_full 167 = .ok (.getfield 93, 3) := by decide +kernel
theorem dX12_full_170 : decode cX12_full 170 = .ok (.aload_n 0, 1) := by decide +kernel
theorem dX12_full_171 : decode cX12_full 171 = .ok (.getfield 333, 3) := by decide +kernel
theorem dX12_full_174 : decode cX12_full 174 = .ok (.iconst 0, 1) := by decide +kernel
theorem dX12_full_175 : decode cX12_full 175 = .ok (.iastore, 1) := by decide +kernel
theorem dX12_full_176 : decode cX12_full 176 = .ok (.aload_n 0, 1) := by decide +kernel
theorem dX12_full_177 : decode cX12_full 177 = .ok (.getfield 87, 3) := by decide +kernel
theorem dX12_full_180 : decode cX12_full 180 = .ok (.aload_n 0, 1) := by decide +kernel
theorem dX12_full_181 : decode cX12_full 181 = .ok (.getfield 333, 3) := by decide +kernel
theorem dX12_full_184 : decode cX12_full 184 = .ok (.aload_n 0, 1) := by decide +kernel
theorem dX12_full_185 : decode cX12_full 185 = .ok (.getfield 90, 3) := by decide +kernel
theorem dX12_full_188 : decode cX12_full 188 = .ok (.iload 4, 2) := by decide +kernel
theorem dX12_full_190 : decode cX12_full 190 = .ok (.iaload, 1) := by decide +kernel
theorem dX12_full_191 : decode cX12_full 191 = .ok (.iastore, 1) := by decide +kernel
theorem dX12_full_192 : decode cX12_full 192 = .ok (.aload_n 0, 1) := by decide +kernel
theorem dX12_full_193 : decode cX12_full 193 = .ok (.getfield 90, 3) := by decide +kernel
theorem dX12_full_196 : decode cX12_full 196 = .ok (.iload 4, 2) := by decide +kernel
theorem dX12_full_198 : decode cX12_full 198 = .ok (.aload_n 0, 1) := by decide +kernel
theorem dX12_full_199 : decode cX12_full 199 = .ok (.getfield 333, 3) := by decide +kernel
theorem dX12_full_202 : decode cX12_full 202 = .ok (.iastore, 1) := by decide +kernel
theorem dX12_full_203 : decode cX12_full 203 = .ok (.aload_n 0, 1) := by decide +kernel
theorem dX12_full_204 : decode cX12_full 204 = .ok (.dup, 1) := by decide +kernel
theorem dX12_full_205 : decode cX12_full 205 = .ok (.getfield 333, 3) := by decide +kernel
theorem dX12_full_208 : decode cX12_full 208 = .ok (.iconst 1, 1) := by decide +kernel
theorem dX12_full_209 : decode cX12_full 209 = .ok (.iadd, 1) := by decide +kernel
theorem dX12_full_210 : decode cX12_full 210 = .ok (.putfield 333, 3) := by decide +kernel
theorem dX12_full_213 : decode cX12_full 213 = .ok (.aload_n 0, 1) := by decide +kernel
theorem dX12_full_214 : decode cX12_full 214 = .ok (.getfield 333, 3) := by decide +kernel
theorem dX12_full_217 : decode cX12_full 217 = .ok (.iconst 1, 1) := by decide +kernel
theorem dX12_full_218 : decode cX12_full 218 = .ok (.isub, 1) := by decide +kernel
theorem dX12_full_219 : decode cX12_full 219 = .ok (.ireturn, 1) := by decide +kernel
theorem dX12_putsOne_0 : decode cX12_putsOne 0 = .ok (.iload_n 1, 1) := by decide +kernel
theorem dX12_putsOne_1 : decode cX12_putsOne 1 = .ok (.iconst 2, 1) := by decide +kernel
theorem dX12_putsOne_2 : decode cX12_putsOne 2 = .ok (.if_icmp .ne 40, 3) := by decide +kernel
theorem dX12_putsOne_5 : decode cX12_putsOne 5 = .ok (.iconst 0, 1) := by decide +kernel
theorem dX12_putsOne_6 : decode cX12_putsOne 6 = .ok (.istore_n 3, 1) := by decide +kernel
theorem dX12_putsOne_7 : decode cX12_putsOne 7 = .ok (.iload_n 3, 1) := by decide +kernel
theorem dX12_putsOne_8 : decode cX12_putsOne 8 = .ok (.bipush 6, 2) := by decide +kernel
theorem dX12_putsOne_10 : decode cX12_putsOne 10 = .ok (.if_icmp .ge 32, 3) := by decide +kernel
theorem dX12_putsOne_13 : decode cX12_putsOne 13 = .ok (.aload_n 0, 1) := by decide +kernel
theorem dX12_putsOne_14 : decode cX12_putsOne 14 = .ok (.getfield 102, 3) := by decide +kernel
theorem dX12_putsOne_17 : decode cX12_putsOne 17 = .ok (.iload_n 3, 1) := by decide +kernel
theorem dX12_putsOne_18 : decode cX12_putsOne 18 = .ok (.iaload, 1) := by decide +kernel
theorem dX12_putsOne_19 : decode cX12_putsOne 19 = .ok (.iload_n 2, 1) := by decide +kernel
theorem dX12_putsOne_20 : decode cX12_putsOne 20 = .ok (.if_icmp .ne 16, 3) := by decide +kernel
theorem dX12_putsOne_23 : decode cX12_putsOne 23 = .ok (.aload_n 0, 1) := by decide +kernel
theorem dX12_putsOne_24 : decode cX12_putsOne 24 = .ok (.iconst 2, 1) := by decide +kernel
theorem dX12_putsOne_25 : decode cX12_putsOne 25 = .ok (.aload_n 0, 1) := by decide +kernel
theorem dX12_putsOne_26 : decode cX12_putsOne 26 = .ok (.getfield 105, 3) := by decide +kernel
theorem dX12_putsOne_29 : decode cX12_putsOne 29 = .ok (.iload_n 3, 1) := by decide +kernel
theorem dX12_putsOne_30 : decode cX12_putsOne 30 = .ok (.iaload, 1) := by decide +kernel
theorem dX12_putsOne_31 : decode cX12_putsOne 31 = .ok (.iconst 0, 1) := by decide +kernel
theorem dX12_putsOne_32 : decode cX12_putsOne 32 = .ok (.invokevirtual 338, 3) := by decide +kernel
theorem dX12_putsOne_35 : decode cX12_putsOne 35 = .ok (.ireturn, 1) := by decide +kernel
theorem dX12_putsOne_36 : decode cX12_putsOne 36 = .ok (.iinc 3 1, 3) := by decide +kernel
theorem dX12_putsOne_39 : decode cX12_putsOne 39 = .ok (.goto (-32), 3) := by decide +kernel
theorem dX12_putsOne_42 : decode cX12_putsOne 42 = .ok (.aload_n 0, 1) := by decide +kernel
theorem dX12_putsOne_43 : decode cX12_putsOne 43 = .ok (.getfield 75, 3) := by decide +kernel
theorem dX12_putsOne_46 : decode cX12_putsOne 46 = .ok (.iload_n 2, 1) := by decide +kernel
theorem dX12_putsOne_47 : decode cX12_putsOne 47 = .ok (.iaload, 1) := by decide +kernel
theorem dX12_putsOne_48 : decode cX12_putsOne 48 = .ok (.iconst 3, 1) := by decide +kernel
theorem dX12_putsOne_49 : decode cX12_putsOne 49 = .ok (.if_icmp .ne 5, 3) := by decide +kernel
theorem dX12_putsOne_52 : decode cX12_putsOne 52 = .ok (.iconst (-1), 1) := by decide +kernel
theorem dX12_putsOne_53 : decode cX12_putsOne 53 = .ok (.ireturn, 1) := by decide +kernel
theorem dX12_putsOne_54 : decode cX12_putsOne 54 = .ok (.iload_n 1, 1) := by decide +kernel
theorem dX12_putsOne_55 : decode cX12_putsOne 55 = .ok (.ifCond .ne 44, 3) := by decide +kernel
theorem dX12_putsOne_58 : decode cX12_putsOne 58 = .ok (.aload_n 0, 1) := by decide +kernel
theorem dX12_putsOne_59 : decode cX12_putsOne 59 = .ok (.getfield 75, 3) := by decide +kernel
theorem dX12_putsOne_62 : decode cX12_putsOne 62 = .ok (.iload_n 2, 1) := by decide +kernel
theorem dX12_putsOne_63 : decode cX12_putsOne 63 = .ok (.iaload, 1) := by decide +kernel
theorem dX12_putsOne_64 : decode cX12_putsOne 64 = .ok (.iconst 1, 1) := by decide +kernel
theorem dX12_putsOne_65 : decode cX12_putsOne 65 = .ok (.if_icmp .ne 34, 3) := by decide +kernel
theorem dX12_putsOne_68 : decode cX12_putsOne 68 = .ok (.aload_n 0, 1) := by decide +kernel
theorem dX12_putsOne_69 : decode cX12_putsOne 69 = .ok (.getfield 102, 3) := by decide +kernel
theorem dX12_putsOne_72 : decode cX12_putsOne 72 = .ok (.aload_n 0, 1) := by decide +kernel
theorem dX12_putsOne_73 : decode cX12_putsOne 73 = .ok (.getfield 78, 3) := by decide +kernel
theorem dX12_putsOne_76 : decode cX12_putsOne 76 = .ok (.iload_n 2, 1) := by decide +kernel
theorem dX12_putsOne_77 : decode cX12_putsOne 77 = .ok (.iaload, 1) := by decide +kernel
theorem dX12_putsOne_78 : decode cX12_putsOne 78 = .ok (.iaload, 1) := by decide +kernel
theorem dX12_putsOne_79 : decode cX12_putsOne 79 = .ok (.iconst (-1), 1) := by decide +kernel
theorem dX12_putsOne_80 : decode cX12_putsOne 80 = .ok (.if_icmp .ne 7, 3) := by decide +kernel
theorem dX12_putsOne_83 : decode cX12_putsOne 83 = .ok (.iload_n 2, 1) := by decide +kernel
theorem dX12_putsOne_84 : decode cX12_putsOne 84 = .ok (.goto 14, 3) := by decide +kernel
theorem dX12_putsOne_87 : decode cX12_putsOne 87 = .ok (.aload_n 0, 1) := by decide +kernel
theorem dX12_putsOne_88 : decode cX12_putsOne 88 = .ok (.getfield 102, 3) := by decide +kernel
theorem dX12_putsOne_91 : decode cX12_putsOne 91 = .ok (.aload_n 0, 1) := by decide +kernel
theorem dX12_putsOne_92 : decode cX12_putsOne 92 = .ok (.getfield 78, 3) := by decide +kernel
theorem dX12_putsOne_95 : decode cX12_putsOne 95 = .ok (.iload_n 2, 1) := by decide +kernel
theorem dX12_putsOne_96 : decode cX12_putsOne 96 = .ok (.iaload, 1) := by decide +kernel
theorem dX12_putsOne_97 : decode cX12_putsOne 97 = .ok (.iaload, 1) := by decide +kernel
theorem dX12_putsOne_98 : decode cX12_putsOne 98 = .ok (.ireturn, 1) := by decide +kernel
theorem dX12_putsOne_99 : decode cX12_putsOne 99 = .ok (.iload_n 1, 1) := by decide +kernel
theorem dX12_putsOne_100 : decode cX12_putsOne 100 = .ok (.iconst 1, 1) := by decide +kernel
theorem dX12_putsOne_101 : decode cX12_putsOne 101 = .ok (.if_icmp .ne 40, 3) := by decide +kernel
theorem dX12_putsOne_104 : decode cX12_putsOne 104 = .ok (.aload_n 0, 1) := by decide +kernel
theorem dX12_putsOne_105 : decode cX12_putsOne 105 = .ok (.getfield 75, 3) := by decide +kernel
theorem dX12_putsOne_108 : decode cX12_putsOne 108 = .ok (.iload_n 2, 1) := by decide +kernel
theorem dX12_putsOne_109 : decode cX12_putsOne 109 = .ok (.iaload, 1) := by decide +kernel
theorem dX12_putsOne_110 : decode cX12_putsOne 110 = .ok (.iconst 2, 1) := by decide +kernel
theorem dX12_putsOne_111 : decode cX12_putsOne 111 = .ok (.if_icmp .ne 30, 3) := by decide +kernel
theorem dX12_putsOne_114 : decode cX12_putsOne 114 = .ok (.aload_n 0, 1) := by decide +kernel
theorem dX12_putsOne_115 : decode cX12_putsOne 115 = .ok (.iconst 2, 1) := by decide +kernel
theorem dX12_putsOne_116 : decode cX12_putsOne 116 = .ok (.aload_n 0, 1) := by decide +kernel
theorem dX12_putsOne_117 : decode cX12_putsOne 117 = .ok (.aload_n 0, 1) := by decide +kernel
theorem dX12_putsOne_118 : decode cX12_putsOne 118 = .ok (.getfield 342, 3) := by decide +kernel
theorem dX12_putsOne_121 : decode cX12_putsOne 121 = .ok (.aload_n 0, 1) := by decide +kernel
theorem dX12_putsOne_122 : decode cX12_putsOne 122 = .ok (.getfield 345, 3) := by decide +kernel
theorem dX12_putsOne_125 : decode cX12_putsOne 125 = .ok (.aload_n 0, 1) := by decide +kernel
theorem dX12_putsOne_126 : decode cX12_putsOne 126 = .ok (.getfield 78, 3) := by decide +kernel
theorem dX12_putsOne_129 : decode cX12_putsOne 129 = .ok (.iload_n 2, 1) := by decide +kernel
theorem dX12_putsOne_130 : decode cX12_putsOne 130 = .ok (.iaload, 1) := by decide +kernel
theorem dX12_putsOne_131 : decode cX12_putsOne 131 = .ok (.invokevirtual 348, 3) := by decide +kernel
theorem dX12_putsOne_134 : decode cX12_putsOne 134 = .ok (.iconst 0, 1) := by decide +kernel
theorem dX12_putsOne_135 : decode cX12_putsOne 135 = .ok (.invokevirtual 338, 3) := by decide +kernel
theorem dX12_putsOne_138 : decode cX12_putsOne 138 = .ok (.goto 4, 3) := by decide +kernel
theorem dX12_putsOne_141 : decode cX12_putsOne 141 = .ok (.iload_n 2, 1) := by decide +kernel
theorem dX12_putsOne_142 : decode cX12_putsOne 142 = .ok (.ireturn, 1) := by decide +kernel
theorem dX12_puts_0 : decode cX12_puts 0 = .ok (.aload_n 0, 1) := by decide +kernel
theorem dX12_puts_1 : decode cX12_puts 1 = .ok (.dup, 1) := by decide +kernel
theorem dX12_puts_2 : decode cX12_puts 2 = .ok (.getfield 351, 3) := by decide +kernel
theorem dX12_puts_5 : decode cX12_puts 5 = .ok (.iconst 1, 1) := by decide +kernel
theorem dX12_puts_6 : decode cX12_puts 6 = .ok (.iadd, 1) := by decide +kernel
theorem dX12_puts_7 : decode cX12_puts 7 = .ok (.putfield 351, 3) := by decide +kernel
theorem dX12_puts_10 : decode cX12_puts 10 = .ok (.aload_n 0, 1) := by decide +kernel
theorem dX12_puts_11 : decode cX12_puts 11 = .ok (.iconst 0, 1) := by decide +kernel
theorem dX12_puts_12 : decode cX12_puts 12 = .ok (.putfield 354, 3) := by decide +kernel
theorem dX12_puts_15 : decode cX12_puts 15 = .ok (.aload_n 0, 1) := by decide +kernel
theorem dX12_puts_16 : decode cX12_puts 16 = .ok (.getfield 99, 3) := by decide +kernel
theorem dX12_puts_19 : decode cX12_puts 19 = .ok (.iconst 0, 1) := by decide +kernel
theorem dX12_puts_20 : decode cX12_puts 20 = .ok (.iload_n 2, 1) := by decide +kernel
theorem dX12_puts_21 : decode cX12_puts 21 = .ok (.iastore, 1) := by decide +kernel
theorem dX12_puts_22 : decode cX12_puts 22 = .ok (.aload_n 0, 1) := by decide +kernel
theorem dX12_puts_23 : decode cX12_puts 23 = .ok (.dup, 1) := by decide +kernel
theorem dX12_puts_24 : decode cX12_puts 24 = .ok (.getfield 354, 3) := by decide +kernel
theorem dX12_puts_27 : decode cX12_puts 27 = .ok (.iconst 1, 1) := by decide +kernel
theorem dX12_puts_28 : decode cX12_puts 28 = .ok (.iadd, 1) := by decide +kernel
theorem dX12_puts_29 : decode cX12_puts 29 = .ok (.putfield 354, 3) := by decide +kernel
theorem dX12_puts_32 : decode cX12_puts 32 = .ok (.aload_n 0, 1) := by decide +kernel
theorem dX12_puts_33 : decode cX12_puts 33 = .ok (.getfield 354, 3) := by decide +kernel
theorem dX12_puts_36 : decode cX12_puts 36 = .ok (.ifCond .le 211, 3) := by decide +kernel
theorem dX12_puts_39 : decode cX12_puts 39 = .ok (.aload_n 0, 1) := by decide +kernel
theorem dX12_puts_40 : decode cX12_puts 40 = .ok (.getfield 99, 3) := by decide +kernel
theorem dX12_puts_43 : decode cX12_puts 43 = .ok (.aload_n 0, 1) := by decide +kernel
theorem dX12_puts_44 : decode cX12_puts 44 = .ok (.getfield 354, 3) := by decide +kernel
theorem dX12_puts_47 : decode cX12_puts 47 = .ok (.iconst 1, 1) := by decide +kernel
theorem dX12_puts_48 : decode cX12_puts 48 = .ok (.isub, 1) := by decide +kernel
theorem dX12_puts_49 : decode cX12_puts 49 = .ok (.iaload, 1) := by decide +kernel
theorem dX12_puts_50 : decode cX12_puts 50 = .ok (.istore_n 3, 1) := by decide +kernel
theorem dX12_puts_51 : decode cX12_puts 51 = .ok (.aload_n 0, 1) := by decide +kernel
theorem dX12_puts_52 : decode cX12_puts 52 = .ok (.getfield 93, 3) := by decide +kernel
theorem dX12_puts_55 : decode cX12_puts 55 = .ok (.iload_n 3, 1) := by decide +kernel
theorem dX12_puts_56 : decode cX12_puts 56 = .ok (.iaload, 1) := by decide +kernel
theorem dX12_puts_57 : decode cX12_puts 57 = .ok (.aload_n 0, 1) := by decide +kernel
theorem dX12_puts_58 : decode cX12_puts 58 = .ok (.getfield 351, 3) := by decide +kernel
theorem dX12_puts_61 : decode cX12_puts 61 = .ok (.if_icmp .ne 16, 3) := by decide +kernel
theorem dX12_puts_64 : decode cX12_puts 64 = .ok (.aload_n 0, 1) := by decide +kernel
theorem dX12_puts_65 : decode cX12_puts 65 = .ok (.dup, 1) := by decide +kernel
theorem dX12_puts_66 : decode cX12_puts 66 = .ok (.getfield 354, 3) := by decide +kernel
theorem dX12_puts_69 : decode cX12_puts 69 = .ok (.iconst 1, 1) := by decide +kernel
theorem dX12_puts_70 : decode cX12_puts 70 = .ok (.isub, 1) := by decide +kernel
theorem dX12_puts_71 : decode cX12_puts 71 = .ok (.putfield 354, 3) := by decide +kernel
theorem dX12_puts_74 : decode cX12_puts 74 = .ok (.goto 170, 3) := by decide +kernel
theorem dX12_puts_77 : decode cX12_puts 77 = .ok (.aload_n 0, 1) := by decide +kernel
theorem dX12_puts_78 : decode cX12_puts 78 = .ok (.iload_n 1, 1) := by decide +kernel
theorem dX12_puts_79 : decode cX12_puts 79 = .ok (.iload_n 3, 1) := by decide +kernel
theorem dX12_puts_80 : decode cX12_puts 80 = .ok (.invokevirtual 357, 3) := by decide +kernel
theorem dX12_puts_83 : decode cX12_puts 83 = .ok (.istore 4, 2) := by decide +kernel
theorem dX12_puts_85 : decode cX12_puts 85 = .ok (.aload_n 0, 1) := by decide +kernel
theorem dX12_puts_86 : decode cX12_puts 86 = .ok (.getfield 78, 3) := by decide +kernel
theorem dX12_puts_89 : decode cX12_puts 89 = .ok (.iload_n 3, 1) := by decide +kernel
theorem dX12_puts_90 : decode cX12_puts 90 = .ok (.iaload, 1) := by decide +kernel
theorem dX12_puts_91 : decode cX12_puts 91 = .ok (.istore 5, 2) := by decide +kernel
theorem dX12_puts_93 : decode cX12_puts 93 = .ok (.aload_n 0, 1) := by decide +kernel
theorem dX12_puts_94 : decode cX12_puts 94 = .ok (.getfield 81, 3) := by decide +kernel
theorem dX12_puts_97 : decode cX12_puts 97 = .ok (.iload_n 3, 1) := by decide +kernel
theorem dX12_puts_98 : decode cX12_puts 98 = .ok (.iaload, 1) := by decide +kernel
theorem dX12_puts_99 : decode cX12_puts 99 = .ok (.istore 6, 2) := by decide +kernel
theorem dX12_puts_101 : decode cX12_puts 101 = .ok (.iload 4, 2) := by decide +kernel
theorem dX12_puts_103 : decode cX12_puts 103 = .ok (.iconst (-1), 1) := by decide +kernel
theorem dX12_puts_104 : decode cX12_puts 104 = .ok (.if_icmp .ne 31, 3) := by decide +kernel
theorem dX12_puts_107 : decode cX12_puts 107 = .ok (.aload_n 0, 1) := by decide +kernel
theorem dX12_puts_108 : decode cX12_puts 108 = .ok (.getfield 93, 3) := by decide +kernel
theorem dX12_puts_111 : decode cX12_puts 111 = .ok (.iload 5, 2) := by decide +kernel
theorem dX12_puts_113 : decode cX12_puts 113 = .ok (.iaload, 1) := by decide +kernel
theorem dX12_puts_114 : decode cX12_puts 114 = .ok (.aload_n 0, 1) := by decide +kernel
theorem dX12_puts_115 : decode cX12_puts 115 = .ok (.getfield 351, 3) := by decide +kernel
theorem dX12_puts_118 : decode cX12_puts 118 = .ok (.if_icmp .ne 21, 3) := by decide +kernel
theorem dX12_puts_121 : decode cX12_puts 121 = .ok (.aload_n 0, 1) := by decide +kernel
theorem dX12_puts_122 : decode cX12_puts 122 = .ok (.getfield 93, 3) := by decide +kernel
theorem dX12_puts_125 : decode cX12_puts 125 = .ok (.iload 6, 2) := by decide +kernel
theorem dX12_puts_127 : decode cX12_puts 127 = .ok (.iaload, 1) := by decide +kernel
theorem dX12_puts_128 : decode cX12_puts 128 = .ok (.aload_n 0, 1) := by decide +kernel
theorem dX12_puts_129 : decode cX12_puts 129 = .ok (.getfield 351, 3) := by decide +kernel
theorem dX12_puts_132 : decode cX12_puts 132 = .ok (.if_icmp .ne 7, 3) := by decide +kernel
theorem dX12_puts_135 : decode cX12_puts 135 = .ok (.iconst 1, 1) := by decide +kernel
theorem dX12_puts_136 : decode cX12_puts 136 = .ok (.goto 4, 3) := by decide +kernel
theorem dX12_puts_139 : decode cX12_puts 139 = .ok (.iconst 0, 1) := by decide +kernel
theorem dX12_puts_140 : decode cX12_puts 140 = .ok (.istore 7, 2) := by decide +kernel
theorem dX12_puts_142 : decode cX12_puts 142 = .ok (.iload 7, 2) := by decide +kernel
theorem dX12_puts_144 : decode cX12_puts 144 = .ok (.ifCond .eq 66, 3) := by decide +kernel
theorem dX12_puts_147 : decode cX12_puts 147 = .ok (.iload 4, 2) := by decide +kernel
theorem dX12_puts_149 : decode cX12_puts 149 = .ok (.iconst (-1), 1) := by decide +kernel
theorem dX12_puts_150 : decode cX12_puts 150 = .ok (.if_icmp .eq 8, 3) := by decide +kernel
theorem dX12_puts_153 : decode cX12_puts 153 = .ok (.iload 4, 2) := by decide +kernel
theorem dX12_puts_155 : decode cX12_puts 155 = .ok (.goto 22, 3) := by decide +kernel
theorem dX12_puts_158 : decode cX12_puts 158 = .ok (.aload_n 0, 1) := by decide +kernel
theorem dX12_puts_159 : decode cX12_puts 159 = .ok (.iconst 3, 1) := by decide +kernel
theorem dX12_puts_160 : decode cX12_puts 160 = .ok (.aload_n 0, 1) := by decide +kernel
theorem dX12_puts_161 : decode cX12_puts 161 = .ok (.getfield 96, 3) := by decide +kernel
theorem dX12_puts_164 : decode cX12_puts 164 = .ok (.iload 5, 2) := by decide +kernel
theorem dX12_puts_166 : decode cX12_puts 166 = .ok (.iaload, 1) := by decide +kernel
theorem dX12_puts_167 : decode cX12_puts 167 = .ok (.aload_n 0, 1) := by decide +kernel
theorem dX12_puts_168 : decode cX12_puts 168 = .ok (.getfield 96, 3) := by decide +kernel
theorem dX12_puts_171 : decode cX12_puts 171 = .ok (.iload 6, 2) := by decide +kernel
theorem dX12_puts_173 : decode cX12_puts 173 = .ok (.iaload, 1) := by decide +kernel
theorem dX12_puts_174 : decode cX12_puts 174 = .ok (.invokevirtual 338, 3) := by decide +kernel
theorem dX12_puts_177 : decode cX12_puts 177 = .ok (.istore 8, 2) := by decide +kernel
theorem dX12_puts_179 : decode cX12_puts 179 = .ok (.aload_n 0, 1) := by decide +kernel
theorem dX12_puts_180 : decode cX12_puts 180 = .ok (.getfield 96, 3) := by decide +kernel
theorem dX12_puts_183 : decode cX12_puts 183 = .ok (.iload_n 3, 1) := by decide +kernel
theorem dX12_puts_184 : decode cX12_puts 184 = .ok (.iload 8, 2) := by decide +kernel
theorem dX12_puts_186 : decode cX12_puts 186 = .ok (.iastore, 1) := by decide +kernel
theorem dX12_puts_187 : decode cX12_puts 187 = .ok (.aload_n 0, 1) := by decide +kernel
theorem dX12_puts_188 : decode cX12_puts 188 = .ok (.getfield 93, 3) := by decide +kernel
theorem dX12_puts_191 : decode cX12_puts 191 = .ok (.iload_n 3, 1) := by decide +kernel
theorem dX12_puts_192 : decode cX12_puts 192 = .ok (.aload_n 0, 1) := by decide +kernel
theorem dX12_puts_193 : decode cX12_puts 193 = .ok (.getfield 351, 3) := by decide +kernel
theorem dX12_puts_196 : decode cX12_puts 196 = .ok (.iastore, 1) := by decide +kernel
theorem dX12_puts_197 : decode cX12_puts 197 = .ok (.aload_n 0, 1) := by decide +kernel
theorem dX12_puts_198 : decode cX12_puts 198 = .ok (.dup, 1) := by decide +kernel
theorem dX12_puts_199 : decode cX12_puts 199 = .ok (.getfield 354, 3) := by decide +kernel
theorem dX12_puts_202 : decode cX12_puts 202 = .ok (.iconst 1, 1) := by decide +kernel
theorem dX12_puts_203 : decode cX12_puts 203 = .ok (.isub, 1) := by decide +kernel
theorem dX12_puts_204 : decode cX12_puts 204 = .ok (.putfield 354, 3) := by decide +kernel
theorem dX12_puts_207 : decode cX12_puts 207 = .ok (.goto 37, 3) := by decide +kernel
theorem dX12_puts_210 : decode cX12_puts 210 = .ok (.aload_n 0, 1) := by decide +kernel
theorem dX12_puts_211 : decode cX12_puts 211 = .ok (.getfield 99, 3) := by decide +kernel
theorem dX12_puts_214 : decode cX12_puts 214 = .ok (.aload_n 0, 1) := by decide +kernel
theorem dX12_puts_215 : decode cX12_puts 215 = .ok (.getfield 354, 3) := by decide +kernel
theorem dX12_puts_218 : decode cX12_puts 218 = .ok (.iload 6, 2) := by decide +kernel
theorem dX12_puts_220 : decode cX12_puts 220 = .ok (.iastore, 1) := by decide +kernel
theorem dX12_puts_221 : decode cX12_puts 221 = .ok (.aload_n 0, 1) := by decide +kernel
theorem dX12_puts_222 : decode cX12_puts 222 = .ok (.getfield 99, 3) := by decide +kernel
theorem dX12_puts_225 : decode cX12_puts 225 = .ok (.aload_n 0, 1) := by decide +kernel
theorem dX12_puts_226 : decode cX12_puts 226 = .ok (.getfield 354, 3) := by decide +kernel
theorem dX12_puts_229 : decode cX12_puts 229 = .ok (.iconst 1, 1) := by decide +kernel
theorem dX12_puts_230 : decode cX12_puts 230 = .ok (.iadd, 1) := by decide +kernel
theorem dX12_puts_231 : decode cX12_puts 231 = .ok (.iload 5, 2) := by decide +kernel
theorem dX12_puts_233 : decode cX12_puts 233 = .ok (.iastore, 1) := by decide +kernel
theorem dX12_puts_234 : decode cX12_puts 234 = .ok (.aload_n 0, 1) := by decide +kernel
theorem dX12_puts_235 : decode cX12_puts 235 = .ok (.dup, 1) := by decide +kernel
theorem dX12_puts_236 : decode cX12_puts 236 = .ok (.getfield 354, 3) := by decide +kernel
theorem dX12_puts_239 : decode cX12_puts 239 = .ok (.iconst 2, 1) := by decide +kernel
theorem dX12_puts_240 : decode cX12_puts 240 = .ok (.iadd, 1) := by decide +kernel
theorem dX12_puts_241 : decode cX12_puts 241 = .ok (.putfield 354, 3) := by decide +kernel
theorem dX12_puts_244 : decode cX12_puts 244 = .ok (.goto (-212), 3) := by decide +kernel
theorem dX12_puts_247 : decode cX12_puts 247 = .ok (.aload_n 0, 1) := by decide +kernel
theorem dX12_puts_248 : decode cX12_puts 248 = .ok (.getfield 96, 3) := by decide +kernel
theorem dX12_puts_251 : decode cX12_puts 251 = .ok (.iload_n 2, 1) := by decide +kernel
theorem dX12_puts_252 : decode cX12_puts 252 = .ok (.iaload, 1) := by decide +kernel
theorem dX12_puts_253 : decode cX12_puts 253 = .ok (.ireturn, 1) := by decide +kernel
theorem dX12_opens_0 : decode cX12_opens 0 = .ok (.aload_n 0, 1) := by decide +kernel
theorem dX12_opens_1 : decode cX12_opens 1 = .ok (.dup, 1) := by decide +kernel
theorem dX12_opens_2 : decode cX12_opens 2 = .ok (.getfield 351, 3) := by decide +kernel
theorem dX12_opens_5 : decode cX12_opens 5 = .ok (.iconst 1, 1) := by decide +kernel
theorem dX12_opens_6 : decode cX12_opens 6 = .ok (.iadd, 1) := by decide +kernel
theorem dX12_opens_7 : decode cX12_opens 7 = .ok (.putfield 351, 3) := by decide +kernel
theorem dX12_opens_10 : decode cX12_opens 10 = .ok (.aload_n 0, 1) := by decide +kernel
theorem dX12_opens_11 : decode cX12_opens 11 = .ok (.iconst 1, 1) := by decide +kernel
theorem dX12_opens_12 : decode cX12_opens 12 = .ok (.putfield 354, 3) := by decide +kernel
theorem dX12_opens_15 : decode cX12_opens 15 = .ok (.aload_n 0, 1) := by decide +kernel
theorem dX12_opens_16 : decode cX12_opens 16 = .ok (.getfield 99, 3) := by decide +kernel
theorem dX12_opens_19 : decode cX12_opens 19 = .ok (.iconst 0, 1) := by decide +kernel
theorem dX12_opens_20 : decode cX12_opens 20 = .ok (.iload_n 1, 1) := by decide +kernel
theorem dX12_opens_21 : decode cX12_opens 21 = .ok (.iastore, 1) := by decide +kernel
theorem dX12_opens_22 : decode cX12_opens 22 = .ok (.iconst 0, 1) := by decide +kernel
theorem dX12_opens_23 : decode cX12_opens 23 = .ok (.istore_n 2, 1) := by decide +kernel
theorem dX12_opens_24 : decode cX12_opens 24 = .ok (.aload_n 0, 1) := by decide +kernel
theorem dX12_opens_25 : decode cX12_opens 25 = .ok (.getfield 354, 3) := by decide +kernel
theorem dX12_opens_28 : decode cX12_opens 28 = .ok (.ifCond .le 126, 3) := by decide +kernel
theorem dX12_opens_31 : decode cX12_opens 31 = .ok (.aload_n 0, 1) := by decide +kernel
theorem dX12_opens_32 : decode cX12_opens 32 = .ok (.dup, 1) := by decide +kernel
theorem dX12_opens_33 : decode cX12_opens 33 = .ok (.getfield 354, 3) := by decide +kernel
theorem dX12_opens_36 : decode cX12_opens 36 = .ok (.iconst 1, 1) := by decide +kernel
theorem dX12_opens_37 : decode cX12_opens 37 = .ok (.isub, 1) := by decide +kernel
theorem dX12_opens_38 : decode cX12_opens 38 = .ok (.putfield 354, 3) := by decide +kernel
theorem dX12_opens_41 : decode cX12_opens 41 = .ok (.aload_n 0, 1) := by decide +kernel
theorem dX12_opens_42 : decode cX12_opens 42 = .ok (.getfield 99, 3) := by decide +kernel
theorem dX12_opens_45 : decode cX12_opens 45 = .ok (.aload_n 0, 1) := by decide +kernel
theorem dX12_opens_46 : decode cX12_opens 46 = .ok (.getfield 354, 3) := by decide +kernel
theorem dX12_opens_49 : decode cX12_opens 49 = .ok (.iaload, 1) := by decide +kernel
theorem dX12_opens_50 : decode cX12_opens 50 = .ok (.istore_n 3, 1) := by decide +kernel
theorem dX12_opens_51 : decode cX12_opens 51 = .ok (.aload_n 0, 1) := by decide +kernel
theorem dX12_opens_52 : decode cX12_opens 52 = .ok (.getfield 93, 3) := by decide +kernel
theorem dX12_opens_55 : decode cX12_opens 55 = .ok (.iload_n 3, 1) := by decide +kernel
theorem dX12_opens_56 : decode cX12_opens 56 = .ok (.iaload, 1) := by decide +kernel
theorem dX12_opens_57 : decode cX12_opens 57 = .ok (.aload_n 0, 1) := by decide +kernel
theorem dX12_opens_58 : decode cX12_opens 58 = .ok (.getfield 351, 3) := by decide +kernel
theorem dX12_opens_61 : decode cX12_opens 61 = .ok (.if_icmp .eq 90, 3) := by decide +kernel
theorem dX12_opens_64 : decode cX12_opens 64 = .ok (.aload_n 0, 1) := by decide +kernel
theorem dX12_opens_65 : decode cX12_opens 65 = .ok (.getfield 93, 3) := by decide +kernel
theorem dX12_opens_68 : decode cX12_opens 68 = .ok (.iload_n 3, 1) := by decide +kernel
theorem dX12_opens_69 : decode cX12_opens 69 = .ok (.aload_n 0, 1) := by decide +kernel
theorem dX12_opens_70 : decode cX12_opens 70 = .ok (.getfield 351, 3) := by decide +kernel
theorem dX12_opens_73 : decode cX12_opens 73 = .ok (.iastore, 1) := by decide +kernel
theorem dX12_opens_74 : decode cX12_opens 74 = .ok (.iload_n 2, 1) := by decide +kernel
theorem dX12_opens_75 : decode cX12_opens 75 = .ok (.aload_n 0, 1) := by decide +kernel
theorem dX12_opens_76 : decode cX12_opens 76 = .ok (.getfield 75, 3) := by decide +kernel
theorem dX12_opens_79 : decode cX12_opens 79 = .ok (.iload_n 3, 1) := by decide +kernel
theorem dX12_opens_80 : decode cX12_opens 80 = .ok (.iaload, 1) := by decide +kernel
theorem dX12_opens_81 : decode cX12_opens 81 = .ok (.iconst 1, 1) := by decide +kernel
theorem dX12_opens_82 : decode cX12_opens 82 = .ok (.if_icmp .ne 14, 3) := by decide +kernel
theorem dX12_opens_85 : decode cX12_opens 85 = .ok (.iconst 1, 1) := by decide +kernel
theorem dX12_opens_86 : decode cX12_opens 86 = .ok (.aload_n 0, 1) := by decide +kernel
theorem dX12_opens_87 : decode cX12_opens 87 = .ok (.getfield 78, 3) := by decide +kernel
theorem dX12_opens_90 : decode cX12_opens 90 = .ok (.iload_n 3, 1) := by decide +kernel
theorem dX12_opens_91 : decode cX12_opens 91 = .ok (.iaload, 1) := by decide +kernel
theorem dX12_opens_92 : decode cX12_opens 92 = .ok (.ishl, 1) := by decide +kernel
theorem dX12_opens_93 : decode cX12_opens 93 = .ok (.goto 4, 3) := by decide +kernel
theorem dX12_opens_96 : decode cX12_opens 96 = .ok (.iconst 0, 1) := by decide +kernel
theorem dX12_opens_97 : decode cX12_opens 97 = .ok (.ior, 1) := by decide +kernel
theorem dX12_opens_98 : decode cX12_opens 98 = .ok (.istore_n 2, 1) := by decide +kernel
theorem dX12_opens_99 : decode cX12_opens 99 = .ok (.aload_n 0, 1) := by decide +kernel
theorem dX12_opens_100 : decode cX12_opens 100 = .ok (.getfield 75, 3) := by decide +kernel
theorem dX12_opens_103 : decode cX12_opens 103 = .ok (.iload_n 3, 1) := by decide +kernel
theorem dX12_opens_104 : decode cX12_opens 104 = .ok (.iaload, 1) := by decide +kernel
theorem dX12_opens_105 : decode cX12_opens 105 = .ok (.iconst 3, 1) := by decide +kernel
theorem dX12_opens_106 : decode cX12_opens 106 = .ok (.if_icmp .ne 45, 3) := by decide +kernel
theorem dX12_opens_109 : decode cX12_opens 109 = .ok (.aload_n 0, 1) := by decide +kernel
theorem dX12_opens_110 : decode cX12_opens 110 = .ok (.getfield 99, 3) := by decide +kernel
theorem dX12_opens_113 : decode cX12_opens 113 = .ok (.aload_n 0, 1) := by decide +kernel
theorem dX12_opens_114 : decode cX12_opens 114 = .ok (.getfield 354, 3) := by decide +kernel
theorem dX12_opens_117 : decode cX12_opens 117 = .ok (.aload_n 0, 1) := by decide +kernel
theorem dX12_opens_118 : decode cX12_opens 118 = .ok (.getfield 78, 3) := by decide +kernel
theorem dX12_opens_121 : decode cX12_opens 121 = .ok (.iload_n 3, 1) := by decide +kernel
theorem dX12_opens_122 : decode cX12_opens 122 = .ok (.iaload, 1) := by decide +kernel
theorem dX12_opens_123 : decode cX12_opens 123 = .ok (.iastore, 1) := by decide +kernel
theorem dX12_opens_124 : decode cX12_opens 124 = .ok (.aload_n 0, 1) := by decide +kernel
theorem dX12_opens_125 : decode cX12_opens 125 = .ok (.getfield 99, 3) := by decide +kernel
theorem dX12_opens_128 : decode cX12_opens 128 = .ok (.aload_n 0, 1) := by decide +kernel
theorem dX12_opens_129 : decode cX12_opens 129 = .ok (.getfield 354, 3) := by decide +kernel
theorem dX12_opens_132 : decode cX12_opens 132 = .ok (.iconst 1, 1) := by decide +kernel
theorem dX12_opens_133 : decode cX12_opens 133 = .ok (.iadd, 1) := by decide +kernel
theorem dX12_opens_134 : decode cX12_opens 134 = .ok (.aload_n 0, 1) := by decide +kernel
theorem dX12_opens_135 : decode cX12_opens 135 = .ok (.getfield 81, 3) := by decide +kernel
theorem dX12_opens_138 : decode cX12_opens 138 = .ok (.iload_n 3, 1) := by decide +kernel
theorem dX12_opens_139 : decode cX12_opens 139 = .ok (.iaload, 1) := by decide +kernel
theorem dX12_opens_140 : decode cX12_opens 140 = .ok (.iastore, 1) := by decide +kernel
theorem dX12_opens_141 : decode cX12_opens 141 = .ok (.aload_n 0, 1) := by decide +kernel
theorem dX12_opens_142 : decode cX12_opens 142 = .ok (.dup, 1) := by decide +kernel
theorem dX12_opens_143 : decode cX12_opens 143 = .ok (.getfield 354, 3) := by decide +kernel
theorem dX12_opens_146 : decode cX12_opens 146 = .ok (.iconst 2, 1) := by decide +kernel
theorem dX12_opens_147 : decode cX12_opens 147 = .ok (.iadd, 1) := by decide +kernel
theorem dX12_opens_148 : decode cX12_opens 148 = .ok (.putfield 354, 3) := by decide +kernel
theorem dX12_opens_151 : decode cX12_opens 151 = .ok (.goto (-127), 3) := by decide +kernel
theorem dX12_opens_154 : decode cX12_opens 154 = .ok (.iload_n 2, 1) := by decide +kernel
theorem dX12_opens_155 : decode cX12_opens 155 = .ok (.ireturn, 1) := by decide +kernel
theorem dX12_thing_0 : decode cX12_thing 0 = .ok (.iload_n 1, 1) := by decide +kernel
theorem dX12_thing_1 : decode cX12_thing 1 = .ok (.bipush 17, 2) := by decide +kernel
theorem dX12_thing_3 : decode cX12_thing 3 = .ok (.iload_n 2, 1) := by decide +kernel
theorem dX12_thing_4 : decode cX12_thing 4 = .ok (.imul, 1) := by decide +kernel
theorem dX12_thing_5 : decode cX12_thing 5 = .ok (.iadd, 1) := by decide +kernel
theorem dX12_thing_6 : decode cX12_thing 6 = .ok (.sipush 257, 3) := by decide +kernel
theorem dX12_thing_9 : decode cX12_thing 9 = .ok (.iload_n 3, 1) := by decide +kernel
theorem dX12_thing_10 : decode cX12_thing 10 = .ok (.imul, 1) := by decide +kernel
theorem dX12_thing_11 : decode cX12_thing 11 = .ok (.iadd, 1) := by decide +kernel
theorem dX12_thing_12 : decode cX12_thing 12 = .ok (.sipush 4099, 3) := by decide +kernel
theorem dX12_thing_15 : decode cX12_thing 15 = .ok (.iload 4, 2) := by decide +kernel
theorem dX12_thing_17 : decode cX12_thing 17 = .ok (.imul, 1) := by decide +kernel
theorem dX12_thing_18 : decode cX12_thing 18 = .ok (.iadd, 1) := by decide +kernel
theorem dX12_thing_19 : decode cX12_thing 19 = .ok (.ldc_w 336, 3) := by decide +kernel
theorem dX12_thing_22 : decode cX12_thing 22 = .ok (.iand, 1) := by decide +kernel
theorem dX12_thing_23 : decode cX12_thing 23 = .ok (.sipush 4096, 3) := by decide +kernel
theorem dX12_thing_26 : decode cX12_thing 26 = .ok (.irem, 1) := by decide +kernel
theorem dX12_thing_27 : decode cX12_thing 27 = .ok (.istore 5, 2) := by decide +kernel
theorem dX12_thing_29 : decode cX12_thing 29 = .ok (.aload_n 0, 1) := by decide +kernel
theorem dX12_thing_30 : decode cX12_thing 30 = .ok (.getfield 124, 3) := by decide +kernel
theorem dX12_thing_33 : decode cX12_thing 33 = .ok (.iload 5, 2) := by decide +kernel
theorem dX12_thing_35 : decode cX12_thing 35 = .ok (.iaload, 1) := by decide +kernel
theorem dX12_thing_36 : decode cX12_thing 36 = .ok (.iconst 1, 1) := by decide +kernel
