theorem dX3_runAlone_22 : decode cX3_runAlone 22 = .ok (.invokevirtual 72, 3) := by decide +kernel
theorem dX3_runAlone_25 : decode cX3_runAlone 25 = .ok (.aload_n 0, 1) := by decide +kernel
theorem dX3_runAlone_26 : decode cX3_runAlone 26 = .ok (.iload_n 3, 1) := by decide +kernel
theorem dX3_runAlone_27 : decode cX3_runAlone 27 = .ok (.invokevirtual 76, 3) := by decide +kernel
theorem dX3_runAlone_30 : decode cX3_runAlone 30 = .ok (.ifCond .eq 10, 3) := by decide +kernel
theorem dX3_runAlone_33 : decode cX3_runAlone 33 = .ok (.aload_n 0, 1) := by decide +kernel
theorem dX3_runAlone_34 : decode cX3_runAlone 34 = .ok (.bipush 8, 2) := by decide +kernel
theorem dX3_runAlone_36 : decode cX3_runAlone 36 = .ok (.invokevirtual 80, 3) := by decide +kernel
theorem dX3_runAlone_39 : decode cX3_runAlone 39 = .ok (.ireturn, 1) := by decide +kernel
theorem dX3_runAlone_40 : decode cX3_runAlone 40 = .ok (.aload_n 0, 1) := by decide +kernel
theorem dX3_runAlone_41 : decode cX3_runAlone 41 = .ok (.iload_n 3, 1) := by decide +kernel
theorem dX3_runAlone_42 : decode cX3_runAlone 42 = .ok (.invokevirtual 84, 3) := by decide +kernel
theorem dX3_runAlone_45 : decode cX3_runAlone 45 = .ok (.ifCond .eq 10, 3) := by decide +kernel
theorem dX3_runAlone_48 : decode cX3_runAlone 48 = .ok (.aload_n 0, 1) := by decide +kernel
theorem dX3_runAlone_49 : decode cX3_runAlone 49 = .ok (.bipush 9, 2) := by decide +kernel
theorem dX3_runAlone_51 : decode cX3_runAlone 51 = .ok (.invokevirtual 80, 3) := by decide +kernel
theorem dX3_runAlone_54 : decode cX3_runAlone 54 = .ok (.ireturn, 1) := by decide +kernel
theorem dX3_runAlone_55 : decode cX3_runAlone 55 = .ok (.aload_n 0, 1) := by decide +kernel
theorem dX3_runAlone_56 : decode cX3_runAlone 56 = .ok (.aload_n 1, 1) := by decide +kernel
theorem dX3_runAlone_57 : decode cX3_runAlone 57 = .ok (.iload_n 3, 1) := by decide +kernel
theorem dX3_runAlone_58 : decode cX3_runAlone 58 = .ok (.iload 4, 2) := by decide +kernel
theorem dX3_runAlone_60 : decode cX3_runAlone 60 = .ok (.invokevirtual 87, 3) := by decide +kernel
theorem dX3_runAlone_63 : decode cX3_runAlone 63 = .ok (.aload_n 0, 1) := by decide +kernel
theorem dX3_runAlone_64 : decode cX3_runAlone 64 = .ok (.aload_n 1, 1) := by decide +kernel
theorem dX3_runAlone_65 : decode cX3_runAlone 65 = .ok (.iload_n 3, 1) := by decide +kernel
theorem dX3_runAlone_66 : decode cX3_runAlone 66 = .ok (.iload 4, 2) := by decide +kernel
theorem dX3_runAlone_68 : decode cX3_runAlone 68 = .ok (.invokevirtual 91, 3) := by decide +kernel
theorem dX3_runAlone_71 : decode cX3_runAlone 71 = .ok (.iload 4, 2) := by decide +kernel
theorem dX3_runAlone_73 : decode cX3_runAlone 73 = .ok (.ireturn, 1) := by decide +kernel
theorem dX3_instance_0 : decode cX3_instance 0 = .ok (.iload_n 2, 1) := by decide +kernel
theorem dX3_instance_1 : decode cX3_instance 1 = .ok (.bipush 24, 2) := by decide +kernel
theorem dX3_instance_3 : decode cX3_instance 3 = .ok (.if_icmp .gt 12, 3) := by decide +kernel
theorem dX3_instance_6 : decode cX3_instance 6 = .ok (.aload_n 0, 1) := by decide +kernel
theorem dX3_instance_7 : decode cX3_instance 7 = .ok (.getfield 54, 3) := by decide +kernel
theorem dX3_instance_10 : decode cX3_instance 10 = .ok (.bipush 24, 2) := by decide +kernel
theorem dX3_instance_12 : decode cX3_instance 12 = .ok (.if_icmp .lt 10, 3) := by decide +kernel
theorem dX3_instance_15 : decode cX3_instance 15 = .ok (.aload_n 0, 1) := by decide +kernel
theorem dX3_instance_16 : decode cX3_instance 16 = .ok (.bipush 8, 2) := by decide +kernel
theorem dX3_instance_18 : decode cX3_instance 18 = .ok (.invokevirtual 80, 3) := by decide +kernel
theorem dX3_instance_21 : decode cX3_instance 21 = .ok (.ireturn, 1) := by decide +kernel
theorem dX3_instance_22 : decode cX3_instance 22 = .ok (.aload_n 1, 1) := by decide +kernel
theorem dX3_instance_23 : decode cX3_instance 23 = .ok (.getfield 94, 3) := by decide +kernel
theorem dX3_instance_26 : decode cX3_instance 26 = .ok (.tableswitch 69 0 6 #[62, 69, 62, 55, 69, 69, 42], 42) := by decide +kernel
theorem dX3_instance_68 : decode cX3_instance 68 = .ok (.aload_n 0, 1) := by decide +kernel
theorem dX3_instance_69 : decode cX3_instance 69 = .ok (.aload_n 0, 1) := by decide +kernel
theorem dX3_instance_70 : decode cX3_instance 70 = .ok (.getfield 50, 3) := by decide +kernel
theorem dX3_instance_73 : decode cX3_instance 73 = .ok (.aload_n 1, 1) := by decide +kernel
theorem dX3_instance_74 : decode cX3_instance 74 = .ok (.invokevirtual 99, 3) := by decide +kernel
theorem dX3_instance_77 : decode cX3_instance 77 = .ok (.invokevirtual 105, 3) := by decide +kernel
theorem dX3_instance_80 : decode cX3_instance 80 = .ok (.ireturn, 1) := by decide +kernel
theorem dX3_instance_81 : decode cX3_instance 81 = .ok (.aload_n 0, 1) := by decide +kernel
theorem dX3_instance_82 : decode cX3_instance 82 = .ok (.aload_n 1, 1) := by decide +kernel
theorem dX3_instance_83 : decode cX3_instance 83 = .ok (.iload_n 2, 1) := by decide +kernel
theorem dX3_instance_84 : decode cX3_instance 84 = .ok (.invokevirtual 109, 3) := by decide +kernel
theorem dX3_instance_87 : decode cX3_instance 87 = .ok (.ireturn, 1) := by decide +kernel
theorem dX3_instance_88 : decode cX3_instance 88 = .ok (.aload_n 0, 1) := by decide +kernel
theorem dX3_instance_89 : decode cX3_instance 89 = .ok (.aload_n 1, 1) := by decide +kernel
theorem dX3_instance_90 : decode cX3_instance 90 = .ok (.iload_n 2, 1) := by decide +kernel
theorem dX3_instance_91 : decode cX3_instance 91 = .ok (.invokevirtual 112, 3) := by decide +kernel
theorem dX3_instance_94 : decode cX3_instance 94 = .ok (.ireturn, 1) := by decide +kernel
theorem dX3_instance_95 : decode cX3_instance 95 = .ok (.aload_n 0, 1) := by decide +kernel
theorem dX3_instance_96 : decode cX3_instance 96 = .ok (.aload_n 1, 1) := by decide +kernel
theorem dX3_instance_97 : decode cX3_instance 97 = .ok (.iload_n 2, 1) := by decide +kernel
theorem dX3_instance_98 : decode cX3_instance 98 = .ok (.invokevirtual 115, 3) := by decide +kernel
theorem dX3_instance_101 : decode cX3_instance 101 = .ok (.ireturn, 1) := by decide +kernel
theorem dX3_unitInstance_0 : decode cX3_unitInstance 0 = .ok (.aload_n 0, 1) := by decide +kernel
theorem dX3_unitInstance_1 : decode cX3_unitInstance 1 = .ok (.getfield 54, 3) := by decide +kernel
theorem dX3_unitInstance_4 : decode cX3_unitInstance 4 = .ok (.bipush 10, 2) := by decide +kernel
theorem dX3_unitInstance_6 : decode cX3_unitInstance 6 = .ok (.imul, 1) := by decide +kernel
theorem dX3_unitInstance_7 : decode cX3_unitInstance 7 = .ok (.istore_n 2, 1) := by decide +kernel
theorem dX3_unitInstance_8 : decode cX3_unitInstance 8 = .ok (.iconst 0, 1) := by decide +kernel
theorem dX3_unitInstance_9 : decode cX3_unitInstance 9 = .ok (.istore_n 3, 1) := by decide +kernel
theorem dX3_unitInstance_10 : decode cX3_unitInstance 10 = .ok (.iload_n 3, 1) := by decide +kernel
theorem dX3_unitInstance_11 : decode cX3_unitInstance 11 = .ok (.bipush 10, 2) := by decide +kernel
theorem dX3_unitInstance_13 : decode cX3_unitInstance 13 = .ok (.if_icmp .ge 142, 3) := by decide +kernel
theorem dX3_unitInstance_16 : decode cX3_unitInstance 16 = .ok (.aload_n 1, 1) := by decide +kernel
theorem dX3_unitInstance_17 : decode cX3_unitInstance 17 = .ok (.iload_n 3, 1) := by decide +kernel
theorem dX3_unitInstance_18 : decode cX3_unitInstance 18 = .ok (.invokevirtual 118, 3) := by decide +kernel
theorem dX3_unitInstance_21 : decode cX3_unitInstance 21 = .ok (.ifCond .eq 15, 3) := by decide +kernel
theorem dX3_unitInstance_24 : decode cX3_unitInstance 24 = .ok (.aload_n 1, 1) := by decide +kernel
theorem dX3_unitInstance_25 : decode cX3_unitInstance 25 = .ok (.iload_n 3, 1) := by decide +kernel
theorem dX3_unitInstance_26 : decode cX3_unitInstance 26 = .ok (.invokevirtual 123, 3) := by decide +kernel
theorem dX3_unitInstance_29 : decode cX3_unitInstance 29 = .ok (.ifCond .ne 7, 3) := by decide +kernel
theorem dX3_unitInstance_32 : decode cX3_unitInstance 32 = .ok (.iconst 1, 1) := by decide +kernel
theorem dX3_unitInstance_33 : decode cX3_unitInstance 33 = .ok (.goto 4, 3) := by decide +kernel
theorem dX3_unitInstance_36 : decode cX3_unitInstance 36 = .ok (.iconst 0, 1) := by decide +kernel
theorem dX3_unitInstance_37 : decode cX3_unitInstance 37 = .ok (.istore 4, 2) := by decide +kernel
theorem dX3_unitInstance_39 : decode cX3_unitInstance 39 = .ok (.aload_n 1, 1) := by decide +kernel
theorem dX3_unitInstance_40 : decode cX3_unitInstance 40 = .ok (.iload_n 3, 1) := by decide +kernel
theorem dX3_unitInstance_41 : decode cX3_unitInstance 41 = .ok (.invokevirtual 126, 3) := by decide +kernel
theorem dX3_unitInstance_44 : decode cX3_unitInstance 44 = .ok (.ifCond .eq 15, 3) := by decide +kernel
theorem dX3_unitInstance_47 : decode cX3_unitInstance 47 = .ok (.aload_n 1, 1) := by decide +kernel
theorem dX3_unitInstance_48 : decode cX3_unitInstance 48 = .ok (.iload_n 3, 1) := by decide +kernel
theorem dX3_unitInstance_49 : decode cX3_unitInstance 49 = .ok (.invokevirtual 118, 3) := by decide +kernel
theorem dX3_unitInstance_52 : decode cX3_unitInstance 52 = .ok (.ifCond .ne 7, 3) := by decide +kernel
theorem dX3_unitInstance_55 : decode cX3_unitInstance 55 = .ok (.iconst 1, 1) := by decide +kernel
theorem dX3_unitInstance_56 : decode cX3_unitInstance 56 = .ok (.goto 4, 3) := by decide +kernel
theorem dX3_unitInstance_59 : decode cX3_unitInstance 59 = .ok (.iconst 0, 1) := by decide +kernel
theorem dX3_unitInstance_60 : decode cX3_unitInstance 60 = .ok (.istore 5, 2) := by decide +kernel
theorem dX3_unitInstance_62 : decode cX3_unitInstance 62 = .ok (.iload_n 2, 1) := by decide +kernel
theorem dX3_unitInstance_63 : decode cX3_unitInstance 63 = .ok (.iload_n 3, 1) := by decide +kernel
theorem dX3_unitInstance_64 : decode cX3_unitInstance 64 = .ok (.iadd, 1) := by decide +kernel
theorem dX3_unitInstance_65 : decode cX3_unitInstance 65 = .ok (.istore 6, 2) := by decide +kernel
theorem dX3_unitInstance_67 : decode cX3_unitInstance 67 = .ok (.aload_n 0, 1) := by decide +kernel
theorem dX3_unitInstance_68 : decode cX3_unitInstance 68 = .ok (.getfield 11, 3) := by decide +kernel
theorem dX3_unitInstance_71 : decode cX3_unitInstance 71 = .ok (.iload 6, 2) := by decide +kernel
theorem dX3_unitInstance_73 : decode cX3_unitInstance 73 = .ok (.iload 4, 2) := by decide +kernel
theorem dX3_unitInstance_75 : decode cX3_unitInstance 75 = .ok (.ifCond .eq 12, 3) := by decide +kernel
theorem dX3_unitInstance_78 : decode cX3_unitInstance 78 = .ok (.aload_n 1, 1) := by decide +kernel
theorem dX3_unitInstance_79 : decode cX3_unitInstance 79 = .ok (.getfield 129, 3) := by decide +kernel
theorem dX3_unitInstance_82 : decode cX3_unitInstance 82 = .ok (.iload_n 3, 1) := by decide +kernel
theorem dX3_unitInstance_83 : decode cX3_unitInstance 83 = .ok (.iaload, 1) := by decide +kernel
theorem dX3_unitInstance_84 : decode cX3_unitInstance 84 = .ok (.goto 14, 3) := by decide +kernel
theorem dX3_unitInstance_87 : decode cX3_unitInstance 87 = .ok (.iload 5, 2) := by decide +kernel
theorem dX3_unitInstance_89 : decode cX3_unitInstance 89 = .ok (.ifCond .eq 7, 3) := by decide +kernel
theorem dX3_unitInstance_92 : decode cX3_unitInstance 92 = .ok (.iconst (-1), 1) := by decide +kernel
theorem dX3_unitInstance_93 : decode cX3_unitInstance 93 = .ok (.goto 5, 3) := by decide +kernel
theorem dX3_unitInstance_96 : decode cX3_unitInstance 96 = .ok (.bipush (-2), 2) := by decide +kernel
theorem dX3_unitInstance_98 : decode cX3_unitInstance 98 = .ok (.iastore, 1) := by decide +kernel
theorem dX3_unitInstance_99 : decode cX3_unitInstance 99 = .ok (.aload_n 0, 1) := by decide +kernel
theorem dX3_unitInstance_100 : decode cX3_unitInstance 100 = .ok (.getfield 15, 3) := by decide +kernel
theorem dX3_unitInstance_103 : decode cX3_unitInstance 103 = .ok (.iload 6, 2) := by decide +kernel
theorem dX3_unitInstance_105 : decode cX3_unitInstance 105 = .ok (.aload_n 1, 1) := by decide +kernel
theorem dX3_unitInstance_106 : decode cX3_unitInstance 106 = .ok (.getfield 130, 3) := by decide +kernel
theorem dX3_unitInstance_109 : decode cX3_unitInstance 109 = .ok (.iload_n 3, 1) := by decide +kernel
theorem dX3_unitInstance_110 : decode cX3_unitInstance 110 = .ok (.iaload, 1) := by decide +kernel
theorem dX3_unitInstance_111 : decode cX3_unitInstance 111 = .ok (.iastore, 1) := by decide +kernel
theorem dX3_unitInstance_112 : decode cX3_unitInstance 112 = .ok (.aload_n 0, 1) := by decide +kernel
theorem dX3_unitInstance_113 : decode cX3_unitInstance 113 = .ok (.getfield 18, 3) := by decide +kernel
theorem dX3_unitInstance_116 : decode cX3_unitInstance 116 = .ok (.iload 6, 2) := by decide +kernel
theorem dX3_unitInstance_118 : decode cX3_unitInstance 118 = .ok (.iconst (-1), 1) := by decide +kernel
theorem dX3_unitInstance_119 : decode cX3_unitInstance 119 = .ok (.iastore, 1) := by decide +kernel
theorem dX3_unitInstance_120 : decode cX3_unitInstance 120 = .ok (.aload_n 0, 1) := by decide +kernel
theorem dX3_unitInstance_121 : decode cX3_unitInstance 121 = .ok (.getfield 31, 3) := by decide +kernel
theorem dX3_unitInstance_124 : decode cX3_unitInstance 124 = .ok (.iload 6, 2) := by decide +kernel
theorem dX3_unitInstance_126 : decode cX3_unitInstance 126 = .ok (.iconst (-1), 1) := by decide +kernel
theorem dX3_unitInstance_127 : decode cX3_unitInstance 127 = .ok (.iastore, 1) := by decide +kernel
theorem dX3_unitInstance_128 : decode cX3_unitInstance 128 = .ok (.aload_n 0, 1) := by decide +kernel
theorem dX3_unitInstance_129 : decode cX3_unitInstance 129 = .ok (.getfield 21, 3) := by decide +kernel
theorem dX3_unitInstance_132 : decode cX3_unitInstance 132 = .ok (.iload 6, 2) := by decide +kernel
theorem dX3_unitInstance_134 : decode cX3_unitInstance 134 = .ok (.aload_n 1, 1) := by decide +kernel
theorem dX3_unitInstance_135 : decode cX3_unitInstance 135 = .ok (.iload_n 3, 1) := by decide +kernel
theorem dX3_unitInstance_136 : decode cX3_unitInstance 136 = .ok (.invokevirtual 126, 3) := by decide +kernel
theorem dX3_unitInstance_139 : decode cX3_unitInstance 139 = .ok (.ifCond .eq 8, 3) := by decide +kernel
theorem dX3_unitInstance_142 : decode cX3_unitInstance 142 = .ok (.iload 6, 2) := by decide +kernel
theorem dX3_unitInstance_144 : decode cX3_unitInstance 144 = .ok (.goto 4, 3) := by decide +kernel
theorem dX3_unitInstance_147 : decode cX3_unitInstance 147 = .ok (.iconst (-1), 1) := by decide +kernel
theorem dX3_unitInstance_148 : decode cX3_unitInstance 148 = .ok (.iastore, 1) := by decide +kernel
theorem dX3_unitInstance_149 : decode cX3_unitInstance 149 = .ok (.iinc 3 1, 3) := by decide +kernel
theorem dX3_unitInstance_152 : decode cX3_unitInstance 152 = .ok (.goto (-142), 3) := by decide +kernel
theorem dX3_unitInstance_155 : decode cX3_unitInstance 155 = .ok (.aload_n 0, 1) := by decide +kernel
theorem dX3_unitInstance_156 : decode cX3_unitInstance 156 = .ok (.dup, 1) := by decide +kernel
theorem dX3_unitInstance_157 : decode cX3_unitInstance 157 = .ok (.getfield 54, 3) := by decide +kernel
theorem dX3_unitInstance_160 : decode cX3_unitInstance 160 = .ok (.iconst 1, 1) := by decide +kernel
theorem dX3_unitInstance_161 : decode cX3_unitInstance 161 = .ok (.iadd, 1) := by decide +kernel
theorem dX3_unitInstance_162 : decode cX3_unitInstance 162 = .ok (.putfield 54, 3) := by decide +kernel
theorem dX3_unitInstance_165 : decode cX3_unitInstance 165 = .ok (.aload_n 0, 1) := by decide +kernel
theorem dX3_unitInstance_166 : decode cX3_unitInstance 166 = .ok (.getfield 54, 3) := by decide +kernel
theorem dX3_unitInstance_169 : decode cX3_unitInstance 169 = .ok (.iconst 1, 1) := by decide +kernel
theorem dX3_unitInstance_170 : decode cX3_unitInstance 170 = .ok (.isub, 1) := by decide +kernel
theorem dX3_unitInstance_171 : decode cX3_unitInstance 171 = .ok (.ireturn, 1) := by decide +kernel
theorem dX3_choiceInstance_0 : decode cX3_choiceInstance 0 = .ok (.aload_n 0, 1) := by decide +kernel
theorem dX3_choiceInstance_1 : decode cX3_choiceInstance 1 = .ok (.getfield 54, 3) := by decide +kernel
theorem dX3_choiceInstance_4 : decode cX3_choiceInstance 4 = .ok (.istore_n 3, 1) := by decide +kernel
theorem dX3_choiceInstance_5 : decode cX3_choiceInstance 5 = .ok (.aload_n 0, 1) := by decide +kernel
theorem dX3_choiceInstance_6 : decode cX3_choiceInstance 6 = .ok (.aload_n 1, 1) := by decide +kernel
theorem dX3_choiceInstance_7 : decode cX3_choiceInstance 7 = .ok (.getfield 131, 3) := by decide +kernel
theorem dX3_choiceInstance_10 : decode cX3_choiceInstance 10 = .ok (.iconst 2, 1) := by decide +kernel
theorem dX3_choiceInstance_11 : decode cX3_choiceInstance 11 = .ok (.aaload, 1) := by decide +kernel
theorem dX3_choiceInstance_12 : decode cX3_choiceInstance 12 = .ok (.iload_n 2, 1) := by decide +kernel
theorem dX3_choiceInstance_13 : decode cX3_choiceInstance 13 = .ok (.iconst 1, 1) := by decide +kernel
theorem dX3_choiceInstance_14 : decode cX3_choiceInstance 14 = .ok (.iadd, 1) := by decide +kernel
theorem dX3_choiceInstance_15 : decode cX3_choiceInstance 15 = .ok (.invokevirtual 58, 3) := by decide +kernel
theorem dX3_choiceInstance_18 : decode cX3_choiceInstance 18 = .ok (.istore 4, 2) := by decide +kernel
theorem dX3_choiceInstance_20 : decode cX3_choiceInstance 20 = .ok (.iload 4, 2) := by decide +kernel
theorem dX3_choiceInstance_22 : decode cX3_choiceInstance 22 = .ok (.ifCond .ge 5, 3) := by decide +kernel
theorem dX3_choiceInstance_25 : decode cX3_choiceInstance 25 = .ok (.iconst (-1), 1) := by decide +kernel
theorem dX3_choiceInstance_26 : decode cX3_choiceInstance 26 = .ok (.ireturn, 1) := by decide +kernel
theorem dX3_choiceInstance_27 : decode cX3_choiceInstance 27 = .ok (.aload_n 0, 1) := by decide +kernel
theorem dX3_choiceInstance_28 : decode cX3_choiceInstance 28 = .ok (.aload_n 1, 1) := by decide +kernel
theorem dX3_choiceInstance_29 : decode cX3_choiceInstance 29 = .ok (.getfield 131, 3) := by decide +kernel
theorem dX3_choiceInstance_32 : decode cX3_choiceInstance 32 = .ok (.iconst 2, 1) := by decide +kernel
theorem dX3_choiceInstance_33 : decode cX3_choiceInstance 33 = .ok (.aaload, 1) := by decide +kernel
theorem dX3_choiceInstance_34 : decode cX3_choiceInstance 34 = .ok (.iload 4, 2) := by decide +kernel
theorem dX3_choiceInstance_36 : decode cX3_choiceInstance 36 = .ok (.iconst 0, 1) := by decide +kernel
theorem dX3_choiceInstance_37 : decode cX3_choiceInstance 37 = .ok (.invokevirtual 65, 3) := by decide +kernel
theorem dX3_choiceInstance_40 : decode cX3_choiceInstance 40 = .ok (.istore 5, 2) := by decide +kernel
theorem dX3_choiceInstance_42 : decode cX3_choiceInstance 42 = .ok (.iload 5, 2) := by decide +kernel
theorem dX3_choiceInstance_44 : decode cX3_choiceInstance 44 = .ok (.ifCond .ge 8, 3) := by decide +kernel
theorem dX3_choiceInstance_47 : decode cX3_choiceInstance 47 = .ok (.bipush (-3), 2) := by decide +kernel
theorem dX3_choiceInstance_49 : decode cX3_choiceInstance 49 = .ok (.goto 10, 3) := by decide +kernel
theorem dX3_choiceInstance_52 : decode cX3_choiceInstance 52 = .ok (.aload_n 0, 1) := by decide +kernel
theorem dX3_choiceInstance_53 : decode cX3_choiceInstance 53 = .ok (.getfield 31, 3) := by decide +kernel
theorem dX3_choiceInstance_56 : decode cX3_choiceInstance 56 = .ok (.iload 5, 2) := by decide +kernel
theorem dX3_choiceInstance_58 : decode cX3_choiceInstance 58 = .ok (.iaload, 1) := by decide +kernel
theorem dX3_choiceInstance_59 : decode cX3_choiceInstance 59 = .ok (.istore 6, 2) := by decide +kernel
theorem dX3_choiceInstance_61 : decode cX3_choiceInstance 61 = .ok (.iload 6, 2) := by decide +kernel
theorem dX3_choiceInstance_63 : decode cX3_choiceInstance 63 = .ok (.ifCond .lt 15, 3) := by decide +kernel
theorem dX3_choiceInstance_66 : decode cX3_choiceInstance 66 = .ok (.aload_n 0, 1) := by decide +kernel
theorem dX3_choiceInstance_67 : decode cX3_choiceInstance 67 = .ok (.getfield 40, 3) := by decide +kernel
theorem dX3_choiceInstance_70 : decode cX3_choiceInstance 70 = .ok (.iload 6, 2) := by decide +kernel
theorem dX3_choiceInstance_72 : decode cX3_choiceInstance 72 = .ok (.invokevirtual 135, 3) := by decide +kernel
theorem dX3_choiceInstance_75 : decode cX3_choiceInstance 75 = .ok (.ifCond .eq 10, 3) := by decide +kernel
theorem dX3_choiceInstance_78 : decode cX3_choiceInstance 78 = .ok (.aload_n 0, 1) := by decide +kernel
theorem dX3_choiceInstance_79 : decode cX3_choiceInstance 79 = .ok (.bipush 11, 2) := by decide +kernel
theorem dX3_choiceInstance_81 : decode cX3_choiceInstance 81 = .ok (.invokevirtual 80, 3) := by decide +kernel
theorem dX3_choiceInstance_84 : decode cX3_choiceInstance 84 = .ok (.ireturn, 1) := by decide +kernel
theorem dX3_choiceInstance_85 : decode cX3_choiceInstance 85 = .ok (.aload_n 0, 1) := by decide +kernel
theorem dX3_choiceInstance_86 : decode cX3_choiceInstance 86 = .ok (.getfield 40, 3) := by decide +kernel
theorem dX3_choiceInstance_89 : decode cX3_choiceInstance 89 = .ok (.iload 6, 2) := by decide +kernel
theorem dX3_choiceInstance_91 : decode cX3_choiceInstance 91 = .ok (.invokevirtual 138, 3) := by decide +kernel
theorem dX3_choiceInstance_94 : decode cX3_choiceInstance 94 = .ok (.ifCond .eq 7, 3) := by decide +kernel
theorem dX3_choiceInstance_97 : decode cX3_choiceInstance 97 = .ok (.iconst 1, 1) := by decide +kernel
theorem dX3_choiceInstance_98 : decode cX3_choiceInstance 98 = .ok (.goto 4, 3) := by decide +kernel
theorem dX3_choiceInstance_101 : decode cX3_choiceInstance 101 = .ok (.iconst 0, 1) := by decide +kernel
theorem dX3_choiceInstance_102 : decode cX3_choiceInstance 102 = .ok (.istore 7, 2) := by decide +kernel
theorem dX3_choiceInstance_104 : decode cX3_choiceInstance 104 = .ok (.aload_n 0, 1) := by decide +kernel
theorem dX3_choiceInstance_105 : decode cX3_choiceInstance 105 = .ok (.iload_n 3, 1) := by decide +kernel
theorem dX3_choiceInstance_106 : decode cX3_choiceInstance 106 = .ok (.putfield 54, 3) := by decide +kernel
theorem dX3_choiceInstance_109 : decode cX3_choiceInstance 109 = .ok (.aload_n 0, 1) := by decide +kernel
theorem dX3_choiceInstance_110 : decode cX3_choiceInstance 110 = .ok (.aload_n 1, 1) := by decide +kernel
theorem dX3_choiceInstance_111 : decode cX3_choiceInstance 111 = .ok (.getfield 131, 3) := by decide +kernel
theorem dX3_choiceInstance_114 : decode cX3_choiceInstance 114 = .ok (.iload 7, 2) := by decide +kernel
theorem dX3_choiceInstance_116 : decode cX3_choiceInstance 116 = .ok (.ifCond .eq 7, 3) := by decide +kernel
theorem dX3_choiceInstance_119 : decode cX3_choiceInstance 119 = .ok (.iconst 0, 1) := by decide +kernel
theorem dX3_choiceInstance_120 : decode cX3_choiceInstance 120 = .ok (.goto 4, 3) := by decide +kernel
theorem dX3_choiceInstance_123 : decode cX3_choiceInstance 123 = .ok (.iconst 1, 1) := by decide +kernel
theorem dX3_choiceInstance_124 : decode cX3_choiceInstance 124 = .ok (.aaload, 1) := by decide +kernel
theorem dX3_choiceInstance_125 : decode cX3_choiceInstance 125 = .ok (.iload_n 2, 1) := by decide +kernel
theorem dX3_choiceInstance_126 : decode cX3_choiceInstance 126 = .ok (.iconst 1, 1) := by decide +kernel
theorem dX3_choiceInstance_127 : decode cX3_choiceInstance 127 = .ok (.iadd, 1) := by decide +kernel
theorem dX3_choiceInstance_128 : decode cX3_choiceInstance 128 = .ok (.invokevirtual 69, 3) := by decide +kernel
theorem dX3_choiceInstance_131 : decode cX3_choiceInstance 131 = .ok (.ireturn, 1) := by decide +kernel
theorem dX3_linkInstance_0 : decode cX3_linkInstance 0 = .ok (.aload_n 0, 1) := by decide +kernel
theorem dX3_linkInstance_1 : decode cX3_linkInstance 1 = .ok (.aload_n 1, 1) := by decide +kernel
theorem dX3_linkInstance_2 : decode cX3_linkInstance 2 = .ok (.getfield 131, 3) := by decide +kernel
theorem dX3_linkInstance_5 : decode cX3_linkInstance 5 = .ok (.iconst 0, 1) := by decide +kernel
theorem dX3_linkInstance_6 : decode cX3_linkInstance 6 = .ok (.aaload, 1) := by decide +kernel
theorem dX3_linkInstance_7 : decode cX3_linkInstance 7 = .ok (.iload_n 2, 1) := by decide +kernel
theorem dX3_linkInstance_8 : decode cX3_linkInstance 8 = .ok (.iconst 1, 1) := by decide +kernel
theorem dX3_linkInstance_9 : decode cX3_linkInstance 9 = .ok (.iadd, 1) := by decide +kernel
theorem dX3_linkInstance_10 : decode cX3_linkInstance 10 = .ok (.invokevirtual 69, 3) := by decide +kernel
theorem dX3_linkInstance_13 : decode cX3_linkInstance 13 = .ok (.istore_n 3, 1) := by decide +kernel
theorem dX3_linkInstance_14 : decode cX3_linkInstance 14 = .ok (.iload_n 3, 1) := by decide +kernel
theorem dX3_linkInstance_15 : decode cX3_linkInstance 15 = .ok (.ifCond .ge 7, 3) := by decide +kernel
theorem dX3_linkInstance_18 : decode cX3_linkInstance 18 = .ok (.iconst (-1), 1) := by decide +kernel
theorem dX3_linkInstance_19 : decode cX3_linkInstance 19 = .ok (.goto 16, 3) := by decide +kernel
theorem dX3_linkInstance_22 : decode cX3_linkInstance 22 = .ok (.aload_n 0, 1) := by decide +kernel
theorem dX3_linkInstance_23 : decode cX3_linkInstance 23 = .ok (.aload_n 1, 1) := by decide +kernel
theorem dX3_linkInstance_24 : decode cX3_linkInstance 24 = .ok (.getfield 131, 3) := by decide +kernel
theorem dX3_linkInstance_27 : decode cX3_linkInstance 27 = .ok (.iconst 1, 1) := by decide +kernel
theorem dX3_linkInstance_28 : decode cX3_linkInstance 28 = .ok (.aaload, 1) := by decide +kernel
theorem dX3_linkInstance_29 : decode cX3_linkInstance 29 = .ok (.iload_n 2, 1) := by decide +kernel
theorem dX3_linkInstance_30 : decode cX3_linkInstance 30 = .ok (.iconst 1, 1) := by decide +kernel
theorem dX3_linkInstance_31 : decode cX3_linkInstance 31 = .ok (.iadd, 1) := by decide +kernel
theorem dX3_linkInstance_32 : decode cX3_linkInstance 32 = .ok (.invokevirtual 69, 3) := by decide +kernel
theorem dX3_linkInstance_35 : decode cX3_linkInstance 35 = .ok (.istore 4, 2) := by decide +kernel
theorem dX3_linkInstance_37 : decode cX3_linkInstance 37 = .ok (.iload 4, 2) := by decide +kernel
theorem dX3_linkInstance_39 : decode cX3_linkInstance 39 = .ok (.ifCond .ge 5, 3) := by decide +kernel
theorem dX3_linkInstance_42 : decode cX3_linkInstance 42 = .ok (.iconst (-1), 1) := by decide +kernel
theorem dX3_linkInstance_43 : decode cX3_linkInstance 43 = .ok (.ireturn, 1) := by decide +kernel
theorem dX3_linkInstance_44 : decode cX3_linkInstance 44 = .ok (.iconst 0, 1) := by decide +kernel
theorem dX3_linkInstance_45 : decode cX3_linkInstance 45 = .ok (.istore 5, 2) := by decide +kernel
theorem dX3_linkInstance_47 : decode cX3_linkInstance 47 = .ok (.iload 5, 2) := by decide +kernel
theorem dX3_linkInstance_49 : decode cX3_linkInstance 49 = .ok (.bipush 10, 2) := by decide +kernel
theorem dX3_linkInstance_51 : decode cX3_linkInstance 51 = .ok (.if_icmp .ge 92, 3) := by decide +kernel
theorem dX3_linkInstance_54 : decode cX3_linkInstance 54 = .ok (.iload_n 3, 1) := by decide +kernel
theorem dX3_linkInstance_55 : decode cX3_linkInstance 55 = .ok (.bipush 10, 2) := by decide +kernel
theorem dX3_linkInstance_57 : decode cX3_linkInstance 57 = .ok (.imul, 1) := by decide +kernel
theorem dX3_linkInstance_58 : decode cX3_linkInstance 58 = .ok (.iload 5, 2) := by decide +kernel
theorem dX3_linkInstance_60 : decode cX3_linkInstance 60 = .ok (.iadd, 1) := by decide +kernel
theorem dX3_linkInstance_61 : decode cX3_linkInstance 61 = .ok (.istore 6, 2) := by decide +kernel
theorem dX3_linkInstance_63 : decode cX3_linkInstance 63 = .ok (.aload_n 0, 1) := by decide +kernel
theorem dX3_linkInstance_64 : decode cX3_linkInstance 64 = .ok (.getfield 21, 3) := by decide +kernel
theorem dX3_linkInstance_67 : decode cX3_linkInstance 67 = .ok (.iload 6, 2) := by decide +kernel
theorem dX3_linkInstance_69 : decode cX3_linkInstance 69 = .ok (.iaload, 1) := by decide +kernel
theorem dX3_linkInstance_70 : decode cX3_linkInstance 70 = .ok (.istore 7, 2) := by decide +kernel
theorem dX3_linkInstance_72 : decode cX3_linkInstance 72 = .ok (.aload_n 0, 1) := by decide +kernel
theorem dX3_linkInstance_73 : decode cX3_linkInstance 73 = .ok (.getfield 21, 3) := by decide +kernel
theorem dX3_linkInstance_76 : decode cX3_linkInstance 76 = .ok (.iload 4, 2) := by decide +kernel
theorem dX3_linkInstance_78 : decode cX3_linkInstance 78 = .ok (.bipush 10, 2) := by decide +kernel
theorem dX3_linkInstance_80 : decode cX3_linkInstance 80 = .ok (.imul, 1) := by decide +kernel
theorem dX3_linkInstance_81 : decode cX3_linkInstance 81 = .ok (.iload 5, 2) := by decide +kernel
theorem dX3_linkInstance_83 : decode cX3_linkInstance 83 = .ok (.iadd, 1) := by decide +kernel
theorem dX3_linkInstance_84 : decode cX3_linkInstance 84 = .ok (.iaload, 1) := by decide +kernel
theorem dX3_linkInstance_85 : decode cX3_linkInstance 85 = .ok (.istore 8, 2) := by decide +kernel
theorem dX3_linkInstance_87 : decode cX3_linkInstance 87 = .ok (.iload 7, 2) := by decide +kernel
theorem dX3_linkInstance_89 : decode cX3_linkInstance 89 = .ok (.ifCond .lt 27, 3) := by decide +kernel
theorem dX3_linkInstance_92 : decode cX3_linkInstance 92 = .ok (.iload 8, 2) := by decide +kernel
theorem dX3_linkInstance_94 : decode cX3_linkInstance 94 = .ok (.ifCond .lt 22, 3) := by decide +kernel
theorem dX3_linkInstance_97 : decode cX3_linkInstance 97 = .ok (.aload_n 0, 1) := by decide +kernel
theorem dX3_linkInstance_98 : decode cX3_linkInstance 98 = .ok (.aload_n 0, 1) := by decide +kernel
theorem dX3_linkInstance_99 : decode cX3_linkInstance 99 = .ok (.iload 7, 2) := by decide +kernel
theorem dX3_linkInstance_101 : decode cX3_linkInstance 101 = .ok (.invokevirtual 141, 3) := by decide +kernel
theorem dX3_linkInstance_104 : decode cX3_linkInstance 104 = .ok (.aload_n 0, 1) := by decide +kernel
theorem dX3_linkInstance_105 : decode cX3_linkInstance 105 = .ok (.iload 8, 2) := by decide +kernel
theorem dX3_linkInstance_107 : decode cX3_linkInstance 107 = .ok (.invokevirtual 141, 3) := by decide +kernel
theorem dX3_linkInstance_110 : decode cX3_linkInstance 110 = .ok (.invokevirtual 144, 3) := by decide +kernel
theorem dX3_linkInstance_113 : decode cX3_linkInstance 113 = .ok (.goto 24, 3) := by decide +kernel
theorem dX3_linkInstance_116 : decode cX3_linkInstance 116 = .ok (.aload_n 1, 1) := by decide +kernel
theorem dX3_linkInstance_117 : decode cX3_linkInstance 117 = .ok (.getfield 94, 3) := by decide +kernel
theorem dX3_linkInstance_120 : decode cX3_linkInstance 120 = .ok (.ifCond .ne 17, 3) := by decide +kernel
theorem dX3_linkInstance_123 : decode cX3_linkInstance 123 = .ok (.iload 8, 2) := by decide +kernel
theorem dX3_linkInstance_125 : decode cX3_linkInstance 125 = .ok (.ifCond .lt 12, 3) := by decide +kernel
theorem dX3_linkInstance_128 : decode cX3_linkInstance 128 = .ok (.aload_n 0, 1) := by decide +kernel
theorem dX3_linkInstance_129 : decode cX3_linkInstance 129 = .ok (.getfield 21, 3) := by decide +kernel
theorem dX3_linkInstance_132 : decode cX3_linkInstance 132 = .ok (.iload 6, 2) := by decide +kernel
theorem dX3_linkInstance_134 : decode cX3_linkInstance 134 = .ok (.iload 8, 2) := by decide +kernel
theorem dX3_linkInstance_136 : decode cX3_linkInstance 136 = .ok (.iastore, 1) := by decide +kernel
theorem dX3_linkInstance_137 : decode cX3_linkInstance 137 = .ok (.iinc 5 1, 3) := by decide +kernel
theorem dX3_linkInstance_140 : decode cX3_linkInstance 140 = .ok (.goto (-93), 3) := by decide +kernel
theorem dX3_linkInstance_143 : decode cX3_linkInstance 143 = .ok (.iload_n 3, 1) := by decide +kernel
theorem dX3_linkInstance_144 : decode cX3_linkInstance 144 = .ok (.ireturn, 1) := by decide +kernel
theorem dX3_endOf_0 : decode cX3_endOf 0 = .ok (.iload_n 1, 1) := by decide +kernel
theorem dX3_endOf_1 : decode cX3_endOf 1 = .ok (.istore_n 2, 1) := by decide +kernel
theorem dX3_endOf_2 : decode cX3_endOf 2 = .ok (.iconst 0, 1) := by decide +kernel
theorem dX3_endOf_3 : decode cX3_endOf 3 = .ok (.istore_n 3, 1) := by decide +kernel
theorem dX3_endOf_4 : decode cX3_endOf 4 = .ok (.iload_n 3, 1) := by decide +kernel
theorem dX3_endOf_5 : decode cX3_endOf 5 = .ok (.sipush 240, 3) := by decide +kernel
theorem dX3_endOf_8 : decode cX3_endOf 8 = .ok (.if_icmp .ge 25, 3) := by decide +kernel
theorem dX3_endOf_11 : decode cX3_endOf 11 = .ok (.aload_n 0, 1) := by decide +kernel
theorem dX3_endOf_12 : decode cX3_endOf 12 = .ok (.getfield 18, 3) := by decide +kernel
theorem dX3_endOf_15 : decode cX3_endOf 15 = .ok (.iload_n 2, 1) := by decide +kernel
theorem dX3_endOf_16 : decode cX3_endOf 16 = .ok (.iaload, 1) := by decide +kernel
theorem dX3_endOf_17 : decode cX3_endOf 17 = .ok (.ifCond .lt 16, 3) := by decide +kernel
theorem dX3_endOf_20 : decode cX3_endOf 20 = .ok (.aload_n 0, 1) := by decide +kernel
theorem dX3_endOf_21 : decode cX3_endOf 21 = .ok (.getfield 18, 3) := by decide +kernel
theorem dX3_endOf_24 : decode cX3_endOf 24 = .ok (.iload_n 2, 1) := by decide +kernel
theorem dX3_endOf_25 : decode cX3_endOf 25 = .ok (.iaload, 1) := by decide +kernel
theorem dX3_endOf_26 : decode cX3_endOf 26 = .ok (.istore_n 2, 1) := by decide +kernel
theorem dX3_endOf_27 : decode cX3_endOf 27 = .ok (.iinc 3 1, 3) := by decide +kernel
theorem dX3_endOf_30 : decode cX3_endOf 30 = .ok (.goto (-26), 3) := by decide +kernel
theorem dX3_endOf_33 : decode cX3_endOf 33 = .ok (.iload_n 2, 1) := by decide +kernel
theorem dX3_endOf_34 : decode cX3_endOf 34 = .ok (.ireturn, 1) := by decide +kernel
theorem dX3_join_0 : decode cX3_join 0 = .ok (.iload_n 1, 1) := by decide +kernel
theorem dX3_join_1 : decode cX3_join 1 = .ok (.iload_n 2, 1) := by decide +kernel
theorem dX3_join_2 : decode cX3_join 2 = .ok (.if_icmp .ne 4, 3) := by decide +kernel
theorem dX3_join_5 : decode cX3_join 5 = .ok (.return_, 1) := by decide +kernel
theorem dX3_join_6 : decode cX3_join 6 = .ok (.aload_n 0, 1) := by decide +kernel
theorem dX3_join_7 : decode cX3_join 7 = .ok (.getfield 11, 3) := by decide +kernel
theorem dX3_join_10 : decode cX3_join 10 = .ok (.iload_n 1, 1) := by decide +kernel
theorem dX3_join_11 : decode cX3_join 11 = .ok (.iaload, 1) := by decide +kernel
theorem dX3_join_12 : decode cX3_join 12 = .ok (.iconst (-1), 1) := by decide +kernel
theorem dX3_join_13 : decode cX3_join 13 = .ok (.if_icmp .ne 13, 3) := by decide +kernel
theorem dX3_join_16 : decode cX3_join 16 = .ok (.aload_n 0, 1) := by decide +kernel
theorem dX3_join_17 : decode cX3_join 17 = .ok (.getfield 18, 3) := by decide +kernel
theorem dX3_join_20 : decode cX3_join 20 = .ok (.iload_n 1, 1) := by decide +kernel
theorem dX3_join_21 : decode cX3_join 21 = .ok (.iload_n 2, 1) := by decide +kernel
theorem dX3_join_22 : decode cX3_join 22 = .ok (.iastore, 1) := by decide +kernel
theorem dX3_join_23 : decode cX3_join 23 = .ok (.goto 20, 3) := by decide +kernel
theorem dX3_join_26 : decode cX3_join 26 = .ok (.aload_n 0, 1) := by decide +kernel
theorem dX3_join_27 : decode cX3_join 27 = .ok (.getfield 11, 3) := by decide +kernel
theorem dX3_join_30 : decode cX3_join 30 = .ok (.iload_n 2, 1) := by decide +kernel
theorem dX3_join_31 : decode cX3_join 31 = .ok (.iaload, 1) := by decide +kernel
theorem dX3_join_32 : decode cX3_join 32 = .ok (.iconst (-1), 1) := by decide +kernel
theorem dX3_join_33 : decode cX3_join 33 = .ok (.if_icmp .ne 10, 3) := by decide +kernel
theorem dX3_join_36 : decode cX3_join 36 = .ok (.aload_n 0, 1) := by decide +kernel
theorem dX3_join_37 : decode cX3_join 37 = .ok (.getfield 18, 3) := by decide +kernel
theorem dX3_join_40 : decode cX3_join 40 = .ok (.iload_n 2, 1) := by decide +kernel
theorem dX3_join_41 : decode cX3_join 41 = .ok (.iload_n 1, 1) := by decide +kernel
theorem dX3_join_42 : decode cX3_join 42 = .ok (.iastore, 1) := by decide +kernel
theorem dX3_join_43 : decode cX3_join 43 = .ok (.return_, 1) := by decide +kernel
theorem dX3_shownInstance_0 : decode cX3_shownInstance 0 = .ok (.aload_n 0, 1) := by decide +kernel
theorem dX3_shownInstance_1 : decode cX3_shownInstance 1 = .ok (.aload_n 1, 1) := by decide +kernel
theorem dX3_shownInstance_2 : decode cX3_shownInstance 2 = .ok (.getfield 131, 3) := by decide +kernel
theorem dX3_shownInstance_5 : decode cX3_shownInstance 5 = .ok (.iconst 0, 1) := by decide +kernel
theorem dX3_shownInstance_6 : decode cX3_shownInstance 6 = .ok (.aaload, 1) := by decide +kernel
theorem dX3_shownInstance_7 : decode cX3_shownInstance 7 = .ok (.iload_n 2, 1) := by decide +kernel
theorem dX3_shownInstance_8 : decode cX3_shownInstance 8 = .ok (.iconst 1, 1) := by decide +kernel
theorem dX3_shownInstance_9 : decode cX3_shownInstance 9 = .ok (.iadd, 1) := by decide +kernel
theorem dX3_shownInstance_10 : decode cX3_shownInstance 10 = .ok (.invokevirtual 69, 3) := by decide +kernel
theorem dX3_shownInstance_13 : decode cX3_shownInstance 13 = .ok (.istore_n 3, 1) := by decide +kernel
theorem dX3_shownInstance_14 : decode cX3_shownInstance 14 = .ok (.iload_n 3, 1) := by decide +kernel
theorem dX3_shownInstance_15 : decode cX3_shownInstance 15 = .ok (.ifCond .ge 5, 3) := by decide +kernel
theorem dX3_shownInstance_18 : decode cX3_shownInstance 18 = .ok (.iconst (-1), 1) := by decide +kernel
theorem dX3_shownInstance_19 : decode cX3_shownInstance 19 = .ok (.ireturn, 1) := by decide +kernel
theorem dX3_shownInstance_20 : decode cX3_shownInstance 20 = .ok (.iload_n 3, 1) := by decide +kernel
theorem dX3_shownInstance_21 : decode cX3_shownInstance 21 = .ok (.bipush 10, 2) := by decide +kernel
theorem dX3_shownInstance_23 : decode cX3_shownInstance 23 = .ok (.imul, 1) := by decide +kernel
theorem dX3_shownInstance_24 : decode cX3_shownInstance 24 = .ok (.istore 4, 2) := by decide +kernel
theorem dX3_shownInstance_26 : decode cX3_shownInstance 26 = .ok (.aload_n 1, 1) := by decide +kernel
theorem dX3_shownInstance_27 : decode cX3_shownInstance 27 = .ok (.getfield 94, 3) := by decide +kernel
theorem dX3_shownInstance_30 : decode cX3_shownInstance 30 = .ok (.iconst 1, 1) := by decide +kernel
theorem dX3_shownInstance_31 : decode cX3_shownInstance 31 = .ok (.if_icmp .ne 69, 3) := by decide +kernel
theorem dX3_shownInstance_34 : decode cX3_shownInstance 34 = .ok (.aload_n 1, 1) := by decide +kernel
theorem dX3_shownInstance_35 : decode cX3_shownInstance 35 = .ok (.getfield 131, 3) := by decide +kernel
theorem dX3_shownInstance_38 : decode cX3_shownInstance 38 = .ok (.iconst 1, 1) := by decide +kernel
theorem dX3_shownInstance_39 : decode cX3_shownInstance 39 = .ok (.aaload, 1) := by decide +kernel
theorem dX3_shownInstance_40 : decode cX3_shownInstance 40 = .ok (.getfield 148, 3) := by decide +kernel
theorem dX3_shownInstance_43 : decode cX3_shownInstance 43 = .ok (.invokevirtual 152, 3) := by decide +kernel
theorem dX3_shownInstance_46 : decode cX3_shownInstance 46 = .ok (.istore 5, 2) := by decide +kernel
theorem dX3_shownInstance_48 : decode cX3_shownInstance 48 = .ok (.iconst 0, 1) := by decide +kernel
theorem dX3_shownInstance_49 : decode cX3_shownInstance 49 = .ok (.istore 6, 2) := by decide +kernel
theorem dX3_shownInstance_51 : decode cX3_shownInstance 51 = .ok (.iload 6, 2) := by decide +kernel
theorem dX3_shownInstance_53 : decode cX3_shownInstance 53 = .ok (.bipush 10, 2) := by decide +kernel
theorem dX3_shownInstance_55 : decode cX3_shownInstance 55 = .ok (.if_icmp .ge 43, 3) := by decide +kernel
theorem dX3_shownInstance_58 : decode cX3_shownInstance 58 = .ok (.aload_n 0, 1) := by decide +kernel
theorem dX3_shownInstance_59 : decode cX3_shownInstance 59 = .ok (.getfield 21, 3) := by decide +kernel
theorem dX3_shownInstance_62 : decode cX3_shownInstance 62 = .ok (.iload 4, 2) := by decide +kernel
theorem dX3_shownInstance_64 : decode cX3_shownInstance 64 = .ok (.iload 6, 2) := by decide +kernel
theorem dX3_shownInstance_66 : decode cX3_shownInstance 66 = .ok (.iadd, 1) := by decide +kernel
theorem dX3_shownInstance_67 : decode cX3_shownInstance 67 = .ok (.iload 5, 2) := by decide +kernel
theorem dX3_shownInstance_69 : decode cX3_shownInstance 69 = .ok (.iload 6, 2) := by decide +kernel
theorem dX3_shownInstance_71 : decode cX3_shownInstance 71 = .ok (.invokestatic 158, 3) := by decide +kernel
theorem dX3_shownInstance_74 : decode cX3_shownInstance 74 = .ok (.ifCond .eq 16, 3) := by decide +kernel
theorem dX3_shownInstance_77 : decode cX3_shownInstance 77 = .ok (.aload_n 0, 1) := by decide +kernel
theorem dX3_shownInstance_78 : decode cX3_shownInstance 78 = .ok (.getfield 21, 3) := by decide +kernel
theorem dX3_shownInstance_81 : decode cX3_shownInstance 81 = .ok (.iload 4, 2) := by decide +kernel
theorem dX3_shownInstance_83 : decode cX3_shownInstance 83 = .ok (.iload 6, 2) := by decide +kernel
theorem dX3_shownInstance_85 : decode cX3_shownInstance 85 = .ok (.iadd, 1) := by decide +kernel
theorem dX3_shownInstance_86 : decode cX3_shownInstance 86 = .ok (.iaload, 1) := by decide +kernel
theorem dX3_shownInstance_87 : decode cX3_shownInstance 87 = .ok (.goto 4, 3) := by decide +kernel
theorem dX3_shownInstance_90 : decode cX3_shownInstance 90 = .ok (.iconst (-1), 1) := by decide +kernel
theorem dX3_shownInstance_91 : decode cX3_shownInstance 91 = .ok (.iastore, 1) := by decide +kernel
theorem dX3_shownInstance_92 : decode cX3_shownInstance 92 = .ok (.iinc 6 1, 3) := by decide +kernel
theorem dX3_shownInstance_95 : decode cX3_shownInstance 95 = .ok (.goto (-44), 3) := by decide +kernel
theorem dX3_shownInstance_98 : decode cX3_shownInstance 98 = .ok (.iload_n 3, 1) := by decide +kernel
theorem dX3_shownInstance_99 : decode cX3_shownInstance 99 = .ok (.ireturn, 1) := by decide +kernel
theorem dX3_shownInstance_100 : decode cX3_shownInstance 100 = .ok (.aload_n 1, 1) := by decide +kernel
theorem dX3_shownInstance_101 : decode cX3_shownInstance 101 = .ok (.getfield 94, 3) := by decide +kernel
theorem dX3_shownInstance_104 : decode cX3_shownInstance 104 = .ok (.iconst 4, 1) := by decide +kernel
theorem dX3_shownInstance_105 : decode cX3_shownInstance 105 = .ok (.if_icmp .ne 27, 3) := by decide +kernel
theorem dX3_shownInstance_108 : decode cX3_shownInstance 108 = .ok (.aload_n 0, 1) := by decide +kernel
theorem dX3_shownInstance_109 : decode cX3_shownInstance 109 = .ok (.getfield 21, 3) := by decide +kernel
theorem dX3_shownInstance_112 : decode cX3_shownInstance 112 = .ok (.iload 4, 2) := by decide +kernel
theorem dX3_shownInstance_114 : decode cX3_shownInstance 114 = .ok (.aload_n 1, 1) := by decide +kernel
theorem dX3_shownInstance_115 : decode cX3_shownInstance 115 = .ok (.getfield 162, 3) := by decide +kernel
theorem dX3_shownInstance_118 : decode cX3_shownInstance 118 = .ok (.iadd, 1) := by decide +kernel
theorem dX3_shownInstance_119 : decode cX3_shownInstance 119 = .ok (.aload_n 0, 1) := by decide +kernel
theorem dX3_shownInstance_120 : decode cX3_shownInstance 120 = .ok (.getfield 21, 3) := by decide +kernel
theorem dX3_shownInstance_123 : decode cX3_shownInstance 123 = .ok (.iload 4, 2) := by decide +kernel
theorem dX3_shownInstance_125 : decode cX3_shownInstance 125 = .ok (.aload_n 1, 1) := by decide +kernel
theorem dX3_shownInstance_126 : decode cX3_shownInstance 126 = .ok (.getfield 165, 3) := by decide +kernel
theorem dX3_shownInstance_129 : decode cX3_shownInstance 129 = .ok (.iadd, 1) := by decide +kernel
theorem dX3_shownInstance_130 : decode cX3_shownInstance 130 = .ok (.iaload, 1) := by decide +kernel
theorem dX3_shownInstance_131 : decode cX3_shownInstance 131 = .ok (.iastore, 1) := by decide +kernel
theorem dX3_shownInstance_132 : decode cX3_shownInstance 132 = .ok (.aload_n 0, 1) := by decide +kernel
theorem dX3_shownInstance_133 : decode cX3_shownInstance 133 = .ok (.getfield 21, 3) := by decide +kernel
theorem dX3_shownInstance_136 : decode cX3_shownInstance 136 = .ok (.iload 4, 2) := by decide +kernel
theorem dX3_shownInstance_138 : decode cX3_shownInstance 138 = .ok (.aload_n 1, 1) := by decide +kernel
theorem dX3_shownInstance_139 : decode cX3_shownInstance 139 = .ok (.getfield 165, 3) := by decide +kernel
theorem dX3_shownInstance_142 : decode cX3_shownInstance 142 = .ok (.iadd, 1) := by decide +kernel
theorem dX3_shownInstance_143 : decode cX3_shownInstance 143 = .ok (.iconst (-1), 1) := by decide +kernel
theorem dX3_shownInstance_144 : decode cX3_shownInstance 144 = .ok (.iastore, 1) := by decide +kernel
theorem dX3_shownInstance_145 : decode cX3_shownInstance 145 = .ok (.iload_n 3, 1) := by decide +kernel
theorem dX3_shownInstance_146 : decode cX3_shownInstance 146 = .ok (.ireturn, 1) := by decide +kernel
theorem dX3_faceCell_0 : decode cX3_faceCell 0 = .ok (.aload_n 0, 1) := by decide +kernel
theorem dX3_faceCell_1 : decode cX3_faceCell 1 = .ok (.getfield 21, 3) := by decide +kernel
theorem dX3_faceCell_4 : decode cX3_faceCell 4 = .ok (.iload_n 2, 1) := by decide +kernel
theorem dX3_faceCell_5 : decode cX3_faceCell 5 = .ok (.bipush 10, 2) := by decide +kernel
theorem dX3_faceCell_7 : decode cX3_faceCell 7 = .ok (.imul, 1) := by decide +kernel
theorem dX3_faceCell_8 : decode cX3_faceCell 8 = .ok (.iload_n 3, 1) := by decide +kernel
theorem dX3_faceCell_9 : decode cX3_faceCell 9 = .ok (.iadd, 1) := by decide +kernel
theorem dX3_faceCell_10 : decode cX3_faceCell 10 = .ok (.iaload, 1) := by decide +kernel
theorem dX3_faceCell_11 : decode cX3_faceCell 11 = .ok (.istore 4, 2) := by decide +kernel
theorem dX3_faceCell_13 : decode cX3_faceCell 13 = .ok (.iload 4, 2) := by decide +kernel
theorem dX3_faceCell_15 : decode cX3_faceCell 15 = .ok (.ifCond .lt 16, 3) := by decide +kernel
theorem dX3_faceCell_18 : decode cX3_faceCell 18 = .ok (.aload_n 1, 1) := by decide +kernel
theorem dX3_faceCell_19 : decode cX3_faceCell 19 = .ok (.getfield 148, 3) := by decide +kernel
theorem dX3_faceCell_22 : decode cX3_faceCell 22 = .ok (.getfield 168, 3) := by decide +kernel
theorem dX3_faceCell_25 : decode cX3_faceCell 25 = .ok (.iload_n 3, 1) := by decide +kernel
theorem dX3_faceCell_26 : decode cX3_faceCell 26 = .ok (.iaload, 1) := by decide +kernel
theorem dX3_faceCell_27 : decode cX3_faceCell 27 = .ok (.iconst 2, 1) := by decide +kernel
theorem dX3_faceCell_28 : decode cX3_faceCell 28 = .ok (.if_icmp .eq 7, 3) := by decide +kernel
theorem dX3_faceCell_31 : decode cX3_faceCell 31 = .ok (.iconst (-1), 1) := by decide +kernel
theorem dX3_faceCell_32 : decode cX3_faceCell 32 = .ok (.goto 10, 3) := by decide +kernel
theorem dX3_faceCell_35 : decode cX3_faceCell 35 = .ok (.aload_n 0, 1) := by decide +kernel
theorem dX3_faceCell_36 : decode cX3_faceCell 36 = .ok (.getfield 24, 3) := by decide +kernel
theorem dX3_faceCell_39 : decode cX3_faceCell 39 = .ok (.iload 4, 2) := by decide +kernel
theorem dX3_faceCell_41 : decode cX3_faceCell 41 = .ok (.iaload, 1) := by decide +kernel
theorem dX3_faceCell_42 : decode cX3_faceCell 42 = .ok (.ireturn, 1) := by decide +kernel
theorem dX3_isCell_0 : decode cX3_isCell 0 = .ok (.aload_n 0, 1) := by decide +kernel
theorem dX3_isCell_1 : decode cX3_isCell 1 = .ok (.getfield 11, 3) := by decide +kernel
theorem dX3_isCell_4 : decode cX3_isCell 4 = .ok (.iload_n 1, 1) := by decide +kernel
theorem dX3_isCell_5 : decode cX3_isCell 5 = .ok (.iaload, 1) := by decide +kernel
theorem dX3_isCell_6 : decode cX3_isCell 6 = .ok (.ifCond .lt 7, 3) := by decide +kernel
theorem dX3_isCell_9 : decode cX3_isCell 9 = .ok (.iconst 1, 1) := by decide +kernel
theorem dX3_isCell_10 : decode cX3_isCell 10 = .ok (.goto 4, 3) := by decide +kernel
theorem dX3_isCell_13 : decode cX3_isCell 13 = .ok (.iconst 0, 1) := by decide +kernel
theorem dX3_isCell_14 : decode cX3_isCell 14 = .ok (.ireturn, 1) := by decide +kernel
theorem dX3_slotCount_0 : decode cX3_slotCount 0 = .ok (.sipush 240, 3) := by decide +kernel
theorem dX3_slotCount_3 : decode cX3_slotCount 3 = .ok (.aload_n 0, 1) := by decide +kernel
theorem dX3_slotCount_4 : decode cX3_slotCount 4 = .ok (.getfield 54, 3) := by decide +kernel
theorem dX3_slotCount_7 : decode cX3_slotCount 7 = .ok (.bipush 10, 2) := by decide +kernel
theorem dX3_slotCount_9 : decode cX3_slotCount 9 = .ok (.imul, 1) := by decide +kernel
theorem dX3_slotCount_10 : decode cX3_slotCount 10 = .ok (.invokestatic 170, 3) := by decide +kernel
theorem dX3_slotCount_13 : decode cX3_slotCount 13 = .ok (.ireturn, 1) := by decide +kernel
theorem dX3_findCells_0 : decode cX3_findCells 0 = .ok (.iload_n 1, 1) := by decide +kernel
theorem dX3_findCells_1 : decode cX3_findCells 1 = .ok (.bipush 10, 2) := by decide +kernel
theorem dX3_findCells_3 : decode cX3_findCells 3 = .ok (.imul, 1) := by decide +kernel
theorem dX3_findCells_4 : decode cX3_findCells 4 = .ok (.istore_n 2, 1) := by decide +kernel
theorem dX3_findCells_5 : decode cX3_findCells 5 = .ok (.iload_n 2, 1) := by decide +kernel
theorem dX3_findCells_6 : decode cX3_findCells 6 = .ok (.aload_n 0, 1) := by decide +kernel
theorem dX3_findCells_7 : decode cX3_findCells 7 = .ok (.invokevirtual 176, 3) := by decide +kernel
theorem dX3_findCells_10 : decode cX3_findCells 10 = .ok (.if_icmp .ge 34, 3) := by decide +kernel
theorem dX3_findCells_13 : decode cX3_findCells 13 = .ok (.aload_n 0, 1) := by decide +kernel
theorem dX3_findCells_14 : decode cX3_findCells 14 = .ok (.iload_n 2, 1) := by decide +kernel
theorem dX3_findCells_15 : decode cX3_findCells 15 = .ok (.invokevirtual 141, 3) := by decide +kernel
theorem dX3_findCells_18 : decode cX3_findCells 18 = .ok (.istore_n 3, 1) := by decide +kernel
theorem dX3_findCells_19 : decode cX3_findCells 19 = .ok (.aload_n 0, 1) := by decide +kernel
theorem dX3_findCells_20 : decode cX3_findCells 20 = .ok (.getfield 24, 3) := by decide +kernel
theorem dX3_findCells_23 : decode cX3_findCells 23 = .ok (.iload_n 2, 1) := by decide +kernel
theorem dX3_findCells_24 : decode cX3_findCells 24 = .ok (.aload_n 0, 1) := by decide +kernel
theorem dX3_findCells_25 : decode cX3_findCells 25 = .ok (.iload_n 3, 1) := by decide +kernel
theorem dX3_findCells_26 : decode cX3_findCells 26 = .ok (.invokevirtual 179, 3) := by decide +kernel
theorem dX3_findCells_29 : decode cX3_findCells 29 = .ok (.ifCond .eq 7, 3) := by decide +kernel
theorem dX3_findCells_32 : decode cX3_findCells 32 = .ok (.iload_n 3, 1) := by decide +kernel
theorem dX3_findCells_33 : decode cX3_findCells 33 = .ok (.goto 4, 3) := by decide +kernel
theorem dX3_findCells_36 : decode cX3_findCells 36 = .ok (.iconst (-1), 1) := by decide +kernel
theorem dX3_findCells_37 : decode cX3_findCells 37 = .ok (.iastore, 1) := by decide +kernel
theorem dX3_findCells_38 : decode cX3_findCells 38 = .ok (.iinc 2 1, 3) := by decide +kernel
theorem dX3_findCells_41 : decode cX3_findCells 41 = .ok (.goto (-36), 3) := by decide +kernel
theorem dX3_findCells_44 : decode cX3_findCells 44 = .ok (.return_, 1) := by decide +kernel
theorem dX3_target_0 : decode cX3_target 0 = .ok (.aload_n 0, 1) := by decide +kernel
theorem dX3_target_1 : decode cX3_target 1 = .ok (.getfield 24, 3) := by decide +kernel
theorem dX3_target_4 : decode cX3_target 4 = .ok (.iload_n 1, 1) := by decide +kernel
theorem dX3_target_5 : decode cX3_target 5 = .ok (.iload_n 1, 1) := by decide +kernel
theorem dX3_target_6 : decode cX3_target 6 = .ok (.bipush 10, 2) := by decide +kernel
theorem dX3_target_8 : decode cX3_target 8 = .ok (.irem, 1) := by decide +kernel
theorem dX3_target_9 : decode cX3_target 9 = .ok (.isub, 1) := by decide +kernel
theorem dX3_target_10 : decode cX3_target 10 = .ok (.iload_n 2, 1) := by decide +kernel
theorem dX3_target_11 : decode cX3_target 11 = .ok (.iadd, 1) := by decide +kernel
theorem dX3_target_12 : decode cX3_target 12 = .ok (.iaload, 1) := by decide +kernel
theorem dX3_target_13 : decode cX3_target 13 = .ok (.ireturn, 1) := by decide +kernel
theorem dX3_refNames_0 : decode cX3_refNames 0 = .ok (.aload_n 0, 1) := by decide +kernel
theorem dX3_refNames_1 : decode cX3_refNames 1 = .ok (.getfield 50, 3) := by decide +kernel
theorem dX3_refNames_4 : decode cX3_refNames 4 = .ok (.getfield 182, 3) := by decide +kernel
theorem dX3_refNames_7 : decode cX3_refNames 7 = .ok (.aload_n 0, 1) := by decide +kernel
theorem dX3_refNames_8 : decode cX3_refNames 8 = .ok (.getfield 11, 3) := by decide +kernel
theorem dX3_refNames_11 : decode cX3_refNames 11 = .ok (.iload_n 1, 1) := by decide +kernel
theorem dX3_refNames_12 : decode cX3_refNames 12 = .ok (.iaload, 1) := by decide +kernel
theorem dX3_refNames_13 : decode cX3_refNames 13 = .ok (.iaload, 1) := by decide +kernel
theorem dX3_refNames_14 : decode cX3_refNames 14 = .ok (.ireturn, 1) := by decide +kernel
theorem dX3_hasOpenRef_0 : decode cX3_hasOpenRef 0 = .ok (.iload_n 1, 1) := by decide +kernel
theorem dX3_hasOpenRef_1 : decode cX3_hasOpenRef 1 = .ok (.bipush 10, 2) := by decide +kernel
theorem dX3_hasOpenRef_3 : decode cX3_hasOpenRef 3 = .ok (.imul, 1) := by decide +kernel
theorem dX3_hasOpenRef_4 : decode cX3_hasOpenRef 4 = .ok (.istore_n 2, 1) := by decide +kernel
theorem dX3_hasOpenRef_5 : decode cX3_hasOpenRef 5 = .ok (.iload_n 2, 1) := by decide +kernel
theorem dX3_hasOpenRef_6 : decode cX3_hasOpenRef 6 = .ok (.aload_n 0, 1) := by decide +kernel
theorem dX3_hasOpenRef_7 : decode cX3_hasOpenRef 7 = .ok (.invokevirtual 176, 3) := by decide +kernel
theorem dX3_hasOpenRef_10 : decode cX3_hasOpenRef 10 = .ok (.if_icmp .ge 54, 3) := by decide +kernel
theorem dX3_hasOpenRef_13 : decode cX3_hasOpenRef 13 = .ok (.iconst 0, 1) := by decide +kernel
theorem dX3_hasOpenRef_14 : decode cX3_hasOpenRef 14 = .ok (.istore_n 3, 1) := by decide +kernel
theorem dX3_hasOpenRef_15 : decode cX3_hasOpenRef 15 = .ok (.iload_n 3, 1) := by decide +kernel
theorem dX3_hasOpenRef_16 : decode cX3_hasOpenRef 16 = .ok (.bipush 10, 2) := by decide +kernel
theorem dX3_hasOpenRef_18 : decode cX3_hasOpenRef 18 = .ok (.if_icmp .ge 40, 3) := by decide +kernel
theorem dX3_hasOpenRef_21 : decode cX3_hasOpenRef 21 = .ok (.aload_n 0, 1) := by decide +kernel
theorem dX3_hasOpenRef_22 : decode cX3_hasOpenRef 22 = .ok (.iload_n 2, 1) := by decide +kernel
theorem dX3_hasOpenRef_23 : decode cX3_hasOpenRef 23 = .ok (.invokevirtual 179, 3) := by decide +kernel
theorem dX3_hasOpenRef_26 : decode cX3_hasOpenRef 26 = .ok (.ifCond .eq 32, 3) := by decide +kernel
theorem dX3_hasOpenRef_29 : decode cX3_hasOpenRef 29 = .ok (.aload_n 0, 1) := by decide +kernel
theorem dX3_hasOpenRef_30 : decode cX3_hasOpenRef 30 = .ok (.iload_n 2, 1) := by decide +kernel
theorem dX3_hasOpenRef_31 : decode cX3_hasOpenRef 31 = .ok (.invokevirtual 185, 3) := by decide +kernel
theorem dX3_hasOpenRef_34 : decode cX3_hasOpenRef 34 = .ok (.iload_n 3, 1) := by decide +kernel
theorem dX3_hasOpenRef_35 : decode cX3_hasOpenRef 35 = .ok (.invokestatic 158, 3) := by decide +kernel
theorem dX3_hasOpenRef_38 : decode cX3_hasOpenRef 38 = .ok (.ifCond .eq 14, 3) := by decide +kernel
theorem dX3_hasOpenRef_41 : decode cX3_hasOpenRef 41 = .ok (.aload_n 0, 1) := by decide +kernel
theorem dX3_hasOpenRef_42 : decode cX3_hasOpenRef 42 = .ok (.iload_n 2, 1) := by decide +kernel
theorem dX3_hasOpenRef_43 : decode cX3_hasOpenRef 43 = .ok (.iload_n 3, 1) := by decide +kernel
theorem dX3_hasOpenRef_44 : decode cX3_hasOpenRef 44 = .ok (.invokevirtual 187, 3) := by decide +kernel
theorem dX3_hasOpenRef_47 : decode cX3_hasOpenRef 47 = .ok (.ifCond .ge 5, 3) := by decide +kernel
theorem dX3_hasOpenRef_50 : decode cX3_hasOpenRef 50 = .ok (.iconst 1, 1) := by decide +kernel
theorem dX3_hasOpenRef_51 : decode cX3_hasOpenRef 51 = .ok (.ireturn, 1) := by decide +kernel
theorem dX3_hasOpenRef_52 : decode cX3_hasOpenRef 52 = .ok (.iinc 3 1, 3) := by decide +kernel
theorem dX3_hasOpenRef_55 : decode cX3_hasOpenRef 55 = .ok (.goto (-40), 3) := by decide +kernel
theorem dX3_hasOpenRef_58 : decode cX3_hasOpenRef 58 = .ok (.iinc 2 1, 3) := by decide +kernel
theorem dX3_hasOpenRef_61 : decode cX3_hasOpenRef 61 = .ok (.goto (-56), 3) := by decide +kernel
theorem dX3_hasOpenRef_64 : decode cX3_hasOpenRef 64 = .ok (.iconst 0, 1) := by decide +kernel
theorem dX3_hasOpenRef_65 : decode cX3_hasOpenRef 65 = .ok (.ireturn, 1) := by decide +kernel
theorem dX3_hasRing_0 : decode cX3_hasRing 0 = .ok (.iconst 0, 1) := by decide +kernel
theorem dX3_hasRing_1 : decode cX3_hasRing 1 = .ok (.istore_n 2, 1) := by decide +kernel
theorem dX3_hasRing_2 : decode cX3_hasRing 2 = .ok (.iload_n 1, 1) := by decide +kernel
theorem dX3_hasRing_3 : decode cX3_hasRing 3 = .ok (.bipush 10, 2) := by decide +kernel
theorem dX3_hasRing_5 : decode cX3_hasRing 5 = .ok (.imul, 1) := by decide +kernel
theorem dX3_hasRing_6 : decode cX3_hasRing 6 = .ok (.istore_n 3, 1) := by decide +kernel
theorem dX3_hasRing_7 : decode cX3_hasRing 7 = .ok (.iload_n 3, 1) := by decide +kernel
theorem dX3_hasRing_8 : decode cX3_hasRing 8 = .ok (.aload_n 0, 1) := by decide +kernel
theorem dX3_hasRing_9 : decode cX3_hasRing 9 = .ok (.invokevirtual 176, 3) := by decide +kernel
theorem dX3_hasRing_12 : decode cX3_hasRing 12 = .ok (.if_icmp .ge 56, 3) := by decide +kernel
theorem dX3_hasRing_15 : decode cX3_hasRing 15 = .ok (.aload_n 0, 1) := by decide +kernel
theorem dX3_hasRing_16 : decode cX3_hasRing 16 = .ok (.getfield 27, 3) := by decide +kernel
theorem dX3_hasRing_19 : decode cX3_hasRing 19 = .ok (.iload_n 3, 1) := by decide +kernel
theorem dX3_hasRing_20 : decode cX3_hasRing 20 = .ok (.aload_n 0, 1) := by decide +kernel
theorem dX3_hasRing_21 : decode cX3_hasRing 21 = .ok (.iload_n 3, 1) := by decide +kernel
theorem dX3_hasRing_22 : decode cX3_hasRing 22 = .ok (.invokevirtual 179, 3) := by decide +kernel
theorem dX3_hasRing_25 : decode cX3_hasRing 25 = .ok (.ifCond .eq 14, 3) := by decide +kernel
theorem dX3_hasRing_28 : decode cX3_hasRing 28 = .ok (.aload_n 0, 1) := by decide +kernel
theorem dX3_hasRing_29 : decode cX3_hasRing 29 = .ok (.getfield 15, 3) := by decide +kernel
theorem dX3_hasRing_32 : decode cX3_hasRing 32 = .ok (.iload_n 3, 1) := by decide +kernel
theorem dX3_hasRing_33 : decode cX3_hasRing 33 = .ok (.iaload, 1) := by decide +kernel
theorem dX3_hasRing_34 : decode cX3_hasRing 34 = .ok (.iconst 1, 1) := by decide +kernel
theorem dX3_hasRing_35 : decode cX3_hasRing 35 = .ok (.iand, 1) := by decide +kernel
theorem dX3_hasRing_36 : decode cX3_hasRing 36 = .ok (.ifCond .eq 7, 3) := by decide +kernel
theorem dX3_hasRing_39 : decode cX3_hasRing 39 = .ok (.iconst 1, 1) := by decide +kernel
theorem dX3_hasRing_40 : decode cX3_hasRing 40 = .ok (.goto 4, 3) := by decide +kernel
theorem dX3_hasRing_43 : decode cX3_hasRing 43 = .ok (.iconst 0, 1) := by decide +kernel
theorem dX3_hasRing_44 : decode cX3_hasRing 44 = .ok (.bastore, 1) := by decide +kernel
theorem dX3_hasRing_45 : decode cX3_hasRing 45 = .ok (.iload_n 2, 1) := by decide +kernel
theorem dX3_hasRing_46 : decode cX3_hasRing 46 = .ok (.aload_n 0, 1) := by decide +kernel
theorem dX3_hasRing_47 : decode cX3_hasRing 47 = .ok (.getfield 27, 3) := by decide +kernel
theorem dX3_hasRing_50 : decode cX3_hasRing 50 = .ok (.iload_n 3, 1) := by decide +kernel
theorem dX3_hasRing_51 : decode cX3_hasRing 51 = .ok (.baload, 1) := by decide +kernel
theorem dX3_hasRing_52 : decode cX3_hasRing 52 = .ok (.ifCond .eq 7, 3) := by decide +kernel
theorem dX3_hasRing_55 : decode cX3_hasRing 55 = .ok (.iconst 0, 1) := by decide +kernel
theorem dX3_hasRing_56 : decode cX3_hasRing 56 = .ok (.goto 4, 3) := by decide +kernel
theorem dX3_hasRing_59 : decode cX3_hasRing 59 = .ok (.iconst 1, 1) := by decide +kernel
theorem dX3_hasRing_60 : decode cX3_hasRing 60 = .ok (.iadd, 1) := by decide +kernel
theorem dX3_hasRing_61 : decode cX3_hasRing 61 = .ok (.istore_n 2, 1) := by decide +kernel
theorem dX3_hasRing_62 : decode cX3_hasRing 62 = .ok (.iinc 3 1, 3) := by decide +kernel
theorem dX3_hasRing_65 : decode cX3_hasRing 65 = .ok (.goto (-58), 3) := by decide +kernel
theorem dX3_hasRing_68 : decode cX3_hasRing 68 = .ok (.iconst 1, 1) := by decide +kernel
theorem dX3_hasRing_69 : decode cX3_hasRing 69 = .ok (.istore_n 3, 1) := by decide +kernel
theorem dX3_hasRing_70 : decode cX3_hasRing 70 = .ok (.iconst 0, 1) := by decide +kernel
theorem dX3_hasRing_71 : decode cX3_hasRing 71 = .ok (.istore 4, 2) := by decide +kernel
theorem dX3_hasRing_73 : decode cX3_hasRing 73 = .ok (.iload 4, 2) := by decide +kernel
theorem dX3_hasRing_75 : decode cX3_hasRing 75 = .ok (.sipush 240, 3) := by decide +kernel
theorem dX3_hasRing_78 : decode cX3_hasRing 78 = .ok (.if_icmp .ge 72, 3) := by decide +kernel
theorem dX3_hasRing_81 : decode cX3_hasRing 81 = .ok (.iload_n 3, 1) := by decide +kernel
theorem dX3_hasRing_82 : decode cX3_hasRing 82 = .ok (.ifCond .eq 68, 3) := by decide +kernel
theorem dX3_hasRing_85 : decode cX3_hasRing 85 = .ok (.iload_n 2, 1) := by decide +kernel
theorem dX3_hasRing_86 : decode cX3_hasRing 86 = .ok (.ifCond .le 64, 3) := by decide +kernel
theorem dX3_hasRing_89 : decode cX3_hasRing 89 = .ok (.iconst 0, 1) := by decide +kernel
theorem dX3_hasRing_90 : decode cX3_hasRing 90 = .ok (.istore_n 3, 1) := by decide +kernel
theorem dX3_hasRing_91 : decode cX3_hasRing 91 = .ok (.iload_n 1, 1) := by decide +kernel
theorem dX3_hasRing_92 : decode cX3_hasRing 92 = .ok (.bipush 10, 2) := by decide +kernel
theorem dX3_hasRing_94 : decode cX3_hasRing 94 = .ok (.imul, 1) := by decide +kernel
theorem dX3_hasRing_95 : decode cX3_hasRing 95 = .ok (.istore 5, 2) := by decide +kernel
theorem dX3_hasRing_97 : decode cX3_hasRing 97 = .ok (.iload 5, 2) := by decide +kernel
theorem dX3_hasRing_99 : decode cX3_hasRing 99 = .ok (.aload_n 0, 1) := by decide +kernel
theorem dX3_hasRing_100 : decode cX3_hasRing 100 = .ok (.invokevirtual 176, 3) := by decide +kernel
theorem dX3_hasRing_103 : decode cX3_hasRing 103 = .ok (.if_icmp .ge 41, 3) := by decide +kernel
theorem dX3_hasRing_106 : decode cX3_hasRing 106 = .ok (.aload_n 0, 1) := by decide +kernel
theorem dX3_hasRing_107 : decode cX3_hasRing 107 = .ok (.getfield 27, 3) := by decide +kernel
theorem dX3_hasRing_110 : decode cX3_hasRing 110 = .ok (.iload 5, 2) := by decide +kernel
theorem dX3_hasRing_112 : decode cX3_hasRing 112 = .ok (.baload, 1) := by decide +kernel
theorem dX3_hasRing_113 : decode cX3_hasRing 113 = .ok (.ifCond .ne 25, 3) := by decide +kernel
theorem dX3_hasRing_116 : decode cX3_hasRing 116 = .ok (.aload_n 0, 1) := by decide +kernel
theorem dX3_hasRing_117 : decode cX3_hasRing 117 = .ok (.iload 5, 2) := by decide +kernel
theorem dX3_hasRing_119 : decode cX3_hasRing 119 = .ok (.invokevirtual 190, 3) := by decide +kernel
theorem dX3_hasRing_122 : decode cX3_hasRing 122 = .ok (.ifCond .eq 16, 3) := by decide +kernel
theorem dX3_hasRing_125 : decode cX3_hasRing 125 = .ok (.aload_n 0, 1) := by decide +kernel
theorem dX3_hasRing_126 : decode cX3_hasRing 126 = .ok (.getfield 27, 3) := by decide +kernel
theorem dX3_hasRing_129 : decode cX3_hasRing 129 = .ok (.iload 5, 2) := by decide +kernel
theorem dX3_hasRing_131 : decode cX3_hasRing 131 = .ok (.iconst 1, 1) := by decide +kernel
theorem dX3_hasRing_132 : decode cX3_hasRing 132 = .ok (.bastore, 1) := by decide +kernel
theorem dX3_hasRing_133 : decode cX3_hasRing 133 = .ok (.iinc 2 (-1), 3) := by decide +kernel
theorem dX3_hasRing_136 : decode cX3_hasRing 136 = .ok (.iconst 1, 1) := by decide +kernel
theorem dX3_hasRing_137 : decode cX3_hasRing 137 = .ok (.istore_n 3, 1) := by decide +kernel
theorem dX3_hasRing_138 : decode cX3_hasRing 138 = .ok (.iinc 5 1, 3) := by decide +kernel
theorem dX3_hasRing_141 : decode cX3_hasRing 141 = .ok (.goto (-44), 3) := by decide +kernel
theorem dX3_hasRing_144 : decode cX3_hasRing 144 = .ok (.iinc 4 1, 3) := by decide +kernel
theorem dX3_hasRing_147 : decode cX3_hasRing 147 = .ok (.goto (-74), 3) := by decide +kernel
theorem dX3_hasRing_150 : decode cX3_hasRing 150 = .ok (.iload_n 2, 1) := by decide +kernel
theorem dX3_hasRing_151 : decode cX3_hasRing 151 = .ok (.ifCond .le 7, 3) := by decide +kernel
theorem dX3_hasRing_154 : decode cX3_hasRing 154 = .ok (.iconst 1, 1) := by decide +kernel
theorem dX3_hasRing_155 : decode cX3_hasRing 155 = .ok (.goto 4, 3) := by decide +kernel
theorem dX3_hasRing_158 : decode cX3_hasRing 158 = .ok (.iconst 0, 1) := by decide +kernel
theorem dX3_hasRing_159 : decode cX3_hasRing 159 = .ok (.ireturn, 1) := by decide +kernel
theorem dX3_leadsToMarked_0 : decode cX3_leadsToMarked 0 = .ok (.iconst 0, 1) := by decide +kernel
theorem dX3_leadsToMarked_1 : decode cX3_leadsToMarked 1 = .ok (.istore_n 2, 1) := by decide +kernel
theorem dX3_leadsToMarked_2 : decode cX3_leadsToMarked 2 = .ok (.iload_n 2, 1) := by decide +kernel
theorem dX3_leadsToMarked_3 : decode cX3_leadsToMarked 3 = .ok (.bipush 10, 2) := by decide +kernel
theorem dX3_leadsToMarked_5 : decode cX3_leadsToMarked 5 = .ok (.if_icmp .ge 37, 3) := by decide +kernel
theorem dX3_leadsToMarked_8 : decode cX3_leadsToMarked 8 = .ok (.aload_n 0, 1) := by decide +kernel
theorem dX3_leadsToMarked_9 : decode cX3_leadsToMarked 9 = .ok (.iload_n 1, 1) := by decide +kernel
theorem dX3_leadsToMarked_10 : decode cX3_leadsToMarked 10 = .ok (.invokevirtual 185, 3) := by decide +kernel
theorem dX3_leadsToMarked_13 : decode cX3_leadsToMarked 13 = .ok (.iload_n 2, 1) := by decide +kernel
theorem dX3_leadsToMarked_14 : decode cX3_leadsToMarked 14 = .ok (.invokestatic 158, 3) := by decide +kernel
theorem dX3_leadsToMarked_17 : decode cX3_leadsToMarked 17 = .ok (.ifCond .eq 19, 3) := by decide +kernel
theorem dX3_leadsToMarked_20 : decode cX3_leadsToMarked 20 = .ok (.aload_n 0, 1) := by decide +kernel
theorem dX3_leadsToMarked_21 : decode cX3_leadsToMarked 21 = .ok (.getfield 27, 3) := by decide +kernel
theorem dX3_leadsToMarked_24 : decode cX3_leadsToMarked 24 = .ok (.aload_n 0, 1) := by decide +kernel
theorem dX3_leadsToMarked_25 : decode cX3_leadsToMarked 25 = .ok (.iload_n 1, 1) := by decide +kernel
theorem dX3_leadsToMarked_26 : decode cX3_leadsToMarked 26 = .ok (.iload_n 2, 1) := by decide +kernel
theorem dX3_leadsToMarked_27 : decode cX3_leadsToMarked 27 = .ok (.invokevirtual 187, 3) := by decide +kernel
theorem dX3_leadsToMarked_30 : decode cX3_leadsToMarked 30 = .ok (.baload, 1) := by decide +kernel
theorem dX3_leadsToMarked_31 : decode cX3_leadsToMarked 31 = .ok (.ifCond .ne 5, 3) := by decide +kernel
theorem dX3_leadsToMarked_34 : decode cX3_leadsToMarked 34 = .ok (.iconst 0, 1) := by decide +kernel
theorem dX3_leadsToMarked_35 : decode cX3_leadsToMarked 35 = .ok (.ireturn, 1) := by decide +kernel
theorem dX3_leadsToMarked_36 : decode cX3_leadsToMarked 36 = .ok (.iinc 2 1, 3) := by decide +kernel
theorem dX3_leadsToMarked_39 : decode cX3_leadsToMarked 39 = .ok (.goto (-37), 3) := by decide +kernel
theorem dX3_leadsToMarked_42 : decode cX3_leadsToMarked 42 = .ok (.iconst 1, 1) := by decide +kernel
theorem dX3_leadsToMarked_43 : decode cX3_leadsToMarked 43 = .ok (.ireturn, 1) := by decide +kernel
theorem dX3_reach_0 : decode cX3_reach 0 = .ok (.aload_n 0, 1) := by decide +kernel
theorem dX3_reach_1 : decode cX3_reach 1 = .ok (.iconst 0, 1) := by decide +kernel
theorem dX3_reach_2 : decode cX3_reach 2 = .ok (.putfield 193, 3) := by decide +kernel
theorem dX3_reach_5 : decode cX3_reach 5 = .ok (.aload_n 0, 1) := by decide +kernel
theorem dX3_reach_6 : decode cX3_reach 6 = .ok (.iconst 0, 1) := by decide +kernel
theorem dX3_reach_7 : decode cX3_reach 7 = .ok (.putfield 196, 3) := by decide +kernel
theorem dX3_reach_10 : decode cX3_reach 10 = .ok (.iload_n 2, 1) := by decide +kernel
theorem dX3_reach_11 : decode cX3_reach 11 = .ok (.bipush 10, 2) := by decide +kernel
theorem dX3_reach_13 : decode cX3_reach 13 = .ok (.imul, 1) := by decide +kernel
theorem dX3_reach_14 : decode cX3_reach 14 = .ok (.istore 4, 2) := by decide +kernel
theorem dX3_reach_16 : decode cX3_reach 16 = .ok (.iload 4, 2) := by decide +kernel
theorem dX3_reach_18 : decode cX3_reach 18 = .ok (.aload_n 0, 1) := by decide +kernel
theorem dX3_reach_19 : decode cX3_reach 19 = .ok (.invokevirtual 176, 3) := by decide +kernel
theorem dX3_reach_22 : decode cX3_reach 22 = .ok (.if_icmp .ge 40, 3) := by decide +kernel
theorem dX3_reach_25 : decode cX3_reach 25 = .ok (.aload_n 0, 1) := by decide +kernel
theorem dX3_reach_26 : decode cX3_reach 26 = .ok (.getfield 27, 3) := by decide +kernel
theorem dX3_reach_29 : decode cX3_reach 29 = .ok (.iload 4, 2) := by decide +kernel
theorem dX3_reach_31 : decode cX3_reach 31 = .ok (.iconst 0, 1) := by decide +kernel
theorem dX3_reach_32 : decode cX3_reach 32 = .ok (.bastore, 1) := by decide +kernel
theorem dX3_reach_33 : decode cX3_reach 33 = .ok (.aload_n 0, 1) := by decide +kernel
theorem dX3_reach_34 : decode cX3_reach 34 = .ok (.dup, 1) := by decide +kernel
theorem dX3_reach_35 : decode cX3_reach 35 = .ok (.getfield 193, 3) := by decide +kernel
theorem dX3_reach_38 : decode cX3_reach 38 = .ok (.aload_n 0, 1) := by decide +kernel
theorem dX3_reach_39 : decode cX3_reach 39 = .ok (.iload 4, 2) := by decide +kernel
theorem dX3_reach_41 : decode cX3_reach 41 = .ok (.invokevirtual 179, 3) := by decide +kernel
theorem dX3_reach_44 : decode cX3_reach 44 = .ok (.ifCond .eq 7, 3) := by decide +kernel
theorem dX3_reach_47 : decode cX3_reach 47 = .ok (.iconst 1, 1) := by decide +kernel
theorem dX3_reach_48 : decode cX3_reach 48 = .ok (.goto 4, 3) := by decide +kernel
theorem dX3_reach_51 : decode cX3_reach 51 = .ok (.iconst 0, 1) := by decide +kernel
theorem dX3_reach_52 : decode cX3_reach 52 = .ok (.iadd, 1) := by decide +kernel
theorem dX3_reach_53 : decode cX3_reach 53 = .ok (.putfield 193, 3) := by decide +kernel
theorem dX3_reach_56 : decode cX3_reach 56 = .ok (.iinc 4 1, 3) := by decide +kernel
theorem dX3_reach_59 : decode cX3_reach 59 = .ok (.goto (-43), 3) := by decide +kernel
theorem dX3_reach_62 : decode cX3_reach 62 = .ok (.iconst 0, 1) := by decide +kernel
theorem dX3_reach_63 : decode cX3_reach 63 = .ok (.istore 4, 2) := by decide +kernel
theorem dX3_reach_65 : decode cX3_reach 65 = .ok (.iload 4, 2) := by decide +kernel
theorem dX3_reach_67 : decode cX3_reach 67 = .ok (.bipush 10, 2) := by decide +kernel
theorem dX3_reach_69 : decode cX3_reach 69 = .ok (.if_icmp .ge 21, 3) := by decide +kernel
theorem dX3_reach_72 : decode cX3_reach 72 = .ok (.aload_n 0, 1) := by decide +kernel
theorem dX3_reach_73 : decode cX3_reach 73 = .ok (.aload_n 0, 1) := by decide +kernel
theorem dX3_reach_74 : decode cX3_reach 74 = .ok (.aload_n 1, 1) := by decide +kernel
theorem dX3_reach_75 : decode cX3_reach 75 = .ok (.iload_n 3, 1) := by decide +kernel
theorem dX3_reach_76 : decode cX3_reach 76 = .ok (.iload 4, 2) := by decide +kernel
theorem dX3_reach_78 : decode cX3_reach 78 = .ok (.invokevirtual 65, 3) := by decide +kernel
theorem dX3_reach_81 : decode cX3_reach 81 = .ok (.invokevirtual 199, 3) := by decide +kernel
theorem dX3_reach_84 : decode cX3_reach 84 = .ok (.iinc 4 1, 3) := by decide +kernel
theorem dX3_reach_87 : decode cX3_reach 87 = .ok (.goto (-22), 3) := by decide +kernel
theorem dX3_reach_90 : decode cX3_reach 90 = .ok (.iload_n 2, 1) := by decide +kernel
theorem dX3_reach_91 : decode cX3_reach 91 = .ok (.bipush 10, 2) := by decide +kernel
theorem dX3_reach_93 : decode cX3_reach 93 = .ok (.imul, 1) := by decide +kernel
theorem dX3_reach_94 : decode cX3_reach 94 = .ok (.istore 4, 2) := by decide +kernel
theorem dX3_reach_96 : decode cX3_reach 96 = .ok (.iload 4, 2) := by decide +kernel
theorem dX3_reach_98 : decode cX3_reach 98 = .ok (.aload_n 0, 1) := by decide +kernel
theorem dX3_reach_99 : decode cX3_reach 99 = .ok (.invokevirtual 176, 3) := by decide +kernel
theorem dX3_reach_102 : decode cX3_reach 102 = .ok (.if_icmp .ge 36, 3) := by decide +kernel
theorem dX3_reach_105 : decode cX3_reach 105 = .ok (.aload_n 0, 1) := by decide +kernel
theorem dX3_reach_106 : decode cX3_reach 106 = .ok (.iload 4, 2) := by decide +kernel
theorem dX3_reach_108 : decode cX3_reach 108 = .ok (.invokevirtual 179, 3) := by decide +kernel
theorem dX3_reach_111 : decode cX3_reach 111 = .ok (.ifCond .eq 21, 3) := by decide +kernel
theorem dX3_reach_114 : decode cX3_reach 114 = .ok (.aload_n 0, 1) := by decide +kernel
theorem dX3_reach_115 : decode cX3_reach 115 = .ok (.getfield 15, 3) := by decide +kernel
theorem dX3_reach_118 : decode cX3_reach 118 = .ok (.iload 4, 2) := by decide +kernel
theorem dX3_reach_120 : decode cX3_reach 120 = .ok (.iaload, 1) := by decide +kernel
theorem dX3_reach_121 : decode cX3_reach 121 = .ok (.iconst 2, 1) := by decide +kernel
theorem dX3_reach_122 : decode cX3_reach 122 = .ok (.iand, 1) := by decide +kernel
theorem dX3_reach_123 : decode cX3_reach 123 = .ok (.ifCond .eq 9, 3) := by decide +kernel
theorem dX3_reach_126 : decode cX3_reach 126 = .ok (.aload_n 0, 1) := by decide +kernel
theorem dX3_reach_127 : decode cX3_reach 127 = .ok (.iload 4, 2) := by decide +kernel
theorem dX3_reach_129 : decode cX3_reach 129 = .ok (.invokevirtual 199, 3) := by decide +kernel
theorem dX3_reach_132 : decode cX3_reach 132 = .ok (.iinc 4 1, 3) := by decide +kernel
theorem dX3_reach_135 : decode cX3_reach 135 = .ok (.goto (-39), 3) := by decide +kernel
theorem dX3_reach_138 : decode cX3_reach 138 = .ok (.iconst 0, 1) := by decide +kernel
theorem dX3_reach_139 : decode cX3_reach 139 = .ok (.istore 4, 2) := by decide +kernel
theorem dX3_reach_141 : decode cX3_reach 141 = .ok (.iload 4, 2) := by decide +kernel
theorem dX3_reach_143 : decode cX3_reach 143 = .ok (.aload_n 0, 1) := by decide +kernel
theorem dX3_reach_144 : decode cX3_reach 144 = .ok (.getfield 196, 3) := by decide +kernel
theorem dX3_reach_147 : decode cX3_reach 147 = .ok (.if_icmp .ge 61, 3) := by decide +kernel
theorem dX3_reach_150 : decode cX3_reach 150 = .ok (.iconst 0, 1) := by decide +kernel
theorem dX3_reach_151 : decode cX3_reach 151 = .ok (.istore 5, 2) := by decide +kernel
theorem dX3_reach_153 : decode cX3_reach 153 = .ok (.iload 5, 2) := by decide +kernel
theorem dX3_reach_155 : decode cX3_reach 155 = .ok (.bipush 10, 2) := by decide +kernel
theorem dX3_reach_157 : decode cX3_reach 157 = .ok (.if_icmp .ge 45, 3) := by decide +kernel
theorem dX3_reach_160 : decode cX3_reach 160 = .ok (.aload_n 0, 1) := by decide +kernel
theorem dX3_reach_161 : decode cX3_reach 161 = .ok (.aload_n 0, 1) := by decide +kernel
theorem dX3_reach_162 : decode cX3_reach 162 = .ok (.getfield 34, 3) := by decide +kernel
theorem dX3_reach_165 : decode cX3_reach 165 = .ok (.iload 4, 2) := by decide +kernel
theorem dX3_reach_167 : decode cX3_reach 167 = .ok (.iaload, 1) := by decide +kernel
theorem dX3_reach_168 : decode cX3_reach 168 = .ok (.invokevirtual 185, 3) := by decide +kernel
theorem dX3_reach_171 : decode cX3_reach 171 = .ok (.iload 5, 2) := by decide +kernel
theorem dX3_reach_173 : decode cX3_reach 173 = .ok (.invokestatic 158, 3) := by decide +kernel
theorem dX3_reach_176 : decode cX3_reach 176 = .ok (.ifCond .eq 20, 3) := by decide +kernel
theorem dX3_reach_179 : decode cX3_reach 179 = .ok (.aload_n 0, 1) := by decide +kernel
theorem dX3_reach_180 : decode cX3_reach 180 = .ok (.aload_n 0, 1) := by decide +kernel
theorem dX3_reach_181 : decode cX3_reach 181 = .ok (.aload_n 0, 1) := by decide +kernel
theorem dX3_reach_182 : decode cX3_reach 182 = .ok (.getfield 34, 3) := by decide +kernel
theorem dX3_reach_185 : decode cX3_reach 185 = .ok (.iload 4, 2) := by decide +kernel
theorem dX3_reach_187 : decode cX3_reach 187 = .ok (.iaload, 1) := by decide +kernel
theorem dX3_reach_188 : decode cX3_reach 188 = .ok (.iload 5, 2) := by decide +kernel
theorem dX3_reach_190 : decode cX3_reach 190 = .ok (.invokevirtual 187, 3) := by decide +kernel
theorem dX3_reach_193 : decode cX3_reach 193 = .ok (.invokevirtual 199, 3) := by decide +kernel
theorem dX3_reach_196 : decode cX3_reach 196 = .ok (.iinc 5 1, 3) := by decide +kernel
theorem dX3_reach_199 : decode cX3_reach 199 = .ok (.goto (-46), 3) := by decide +kernel
theorem dX3_reach_202 : decode cX3_reach 202 = .ok (.iinc 4 1, 3) := by decide +kernel
theorem dX3_reach_205 : decode cX3_reach 205 = .ok (.goto (-64), 3) := by decide +kernel
theorem dX3_reach_208 : decode cX3_reach 208 = .ok (.return_, 1) := by decide +kernel
theorem dX3_reachCell_0 : decode cX3_reachCell 0 = .ok (.iload_n 1, 1) := by decide +kernel
theorem dX3_reachCell_1 : decode cX3_reachCell 1 = .ok (.ifCond .lt 49, 3) := by decide +kernel
theorem dX3_reachCell_4 : decode cX3_reachCell 4 = .ok (.aload_n 0, 1) := by decide +kernel
theorem dX3_reachCell_5 : decode cX3_reachCell 5 = .ok (.getfield 27, 3) := by decide +kernel
theorem dX3_reachCell_8 : decode cX3_reachCell 8 = .ok (.iload_n 1, 1) := by decide +kernel
theorem dX3_reachCell_9 : decode cX3_reachCell 9 = .ok (.baload, 1) := by decide +kernel
theorem dX3_reachCell_10 : decode cX3_reachCell 10 = .ok (.ifCond .ne 40, 3) := by decide +kernel
theorem dX3_reachCell_13 : decode cX3_reachCell 13 = .ok (.aload_n 0, 1) := by decide +kernel
theorem dX3_reachCell_14 : decode cX3_reachCell 14 = .ok (.getfield 196, 3) := by decide +kernel
theorem dX3_reachCell_17 : decode cX3_reachCell 17 = .ok (.sipush 240, 3) := by decide +kernel
theorem dX3_reachCell_20 : decode cX3_reachCell 20 = .ok (.if_icmp .ge 30, 3) := by decide +kernel
theorem dX3_reachCell_23 : decode cX3_reachCell 23 = .ok (.aload_n 0, 1) := by decide +kernel
theorem dX3_reachCell_24 : decode cX3_reachCell 24 = .ok (.getfield 27, 3) := by decide +kernel
theorem dX3_reachCell_27 : decode cX3_reachCell 27 = .ok (.iload_n 1, 1) := by decide +kernel
theorem dX3_reachCell_28 : decode cX3_reachCell 28 = .ok (.iconst 1, 1) := by decide +kernel
theorem dX3_reachCell_29 : decode cX3_reachCell 29 = .ok (.bastore, 1) := by decide +kernel
theorem dX3_reachCell_30 : decode cX3_reachCell 30 = .ok (.aload_n 0, 1) := by decide +kernel
theorem dX3_reachCell_31 : decode cX3_reachCell 31 = .ok (.getfield 34, 3) := by decide +kernel
theorem dX3_reachCell_34 : decode cX3_reachCell 34 = .ok (.aload_n 0, 1) := by decide +kernel
theorem dX3_reachCell_35 : decode cX3_reachCell 35 = .ok (.getfield 196, 3) := by decide +kernel
theorem dX3_reachCell_38 : decode cX3_reachCell 38 = .ok (.iload_n 1, 1) := by decide +kernel
theorem dX3_reachCell_39 : decode cX3_reachCell 39 = .ok (.iastore, 1) := by decide +kernel
theorem dX3_reachCell_40 : decode cX3_reachCell 40 = .ok (.aload_n 0, 1) := by decide +kernel
theorem dX3_reachCell_41 : decode cX3_reachCell 41 = .ok (.dup, 1) := by decide +kernel
theorem dX3_reachCell_42 : decode cX3_reachCell 42 = .ok (.getfield 196, 3) := by decide +kernel
theorem dX3_reachCell_45 : decode cX3_reachCell 45 = .ok (.iconst 1, 1) := by decide +kernel
theorem dX3_reachCell_46 : decode cX3_reachCell 46 = .ok (.iadd, 1) := by decide +kernel
theorem dX3_reachCell_47 : decode cX3_reachCell 47 = .ok (.putfield 196, 3) := by decide +kernel
theorem dX3_reachCell_50 : decode cX3_reachCell 50 = .ok (.return_, 1) := by decide +kernel
theorem dX3_giveValues_0 : decode cX3_giveValues 0 = .ok (.aload_n 0, 1) := by decide +kernel
theorem dX3_giveValues_1 : decode cX3_giveValues 1 = .ok (.getfield 40, 3) := by decide +kernel
theorem dX3_giveValues_4 : decode cX3_giveValues 4 = .ok (.iconst 0, 1) := by decide +kernel
theorem dX3_giveValues_5 : decode cX3_giveValues 5 = .ok (.putfield 202, 3) := by decide +kernel
theorem dX3_giveValues_8 : decode cX3_giveValues 8 = .ok (.aload_n 0, 1) := by decide +kernel
theorem dX3_giveValues_9 : decode cX3_giveValues 9 = .ok (.iconst 0, 1) := by decide +kernel
theorem dX3_giveValues_10 : decode cX3_giveValues 10 = .ok (.putfield 205, 3) := by decide +kernel
theorem dX3_giveValues_13 : decode cX3_giveValues 13 = .ok (.iload_n 2, 1) := by decide +kernel
theorem dX3_giveValues_14 : decode cX3_giveValues 14 = .ok (.bipush 10, 2) := by decide +kernel
theorem dX3_giveValues_16 : decode cX3_giveValues 16 = .ok (.imul, 1) := by decide +kernel
theorem dX3_giveValues_17 : decode cX3_giveValues 17 = .ok (.istore 4, 2) := by decide +kernel
theorem dX3_giveValues_19 : decode cX3_giveValues 19 = .ok (.iload 4, 2) := by decide +kernel
theorem dX3_giveValues_21 : decode cX3_giveValues 21 = .ok (.aload_n 0, 1) := by decide +kernel
theorem dX3_giveValues_22 : decode cX3_giveValues 22 = .ok (.invokevirtual 176, 3) := by decide +kernel
theorem dX3_giveValues_25 : decode cX3_giveValues 25 = .ok (.if_icmp .ge 46, 3) := by decide +kernel
theorem dX3_giveValues_28 : decode cX3_giveValues 28 = .ok (.aload_n 0, 1) := by decide +kernel
theorem dX3_giveValues_29 : decode cX3_giveValues 29 = .ok (.iload 4, 2) := by decide +kernel
theorem dX3_giveValues_31 : decode cX3_giveValues 31 = .ok (.invokevirtual 179, 3) := by decide +kernel
theorem dX3_giveValues_34 : decode cX3_giveValues 34 = .ok (.ifCond .eq 31, 3) := by decide +kernel
theorem dX3_giveValues_37 : decode cX3_giveValues 37 = .ok (.aload_n 0, 1) := by decide +kernel
theorem dX3_giveValues_38 : decode cX3_giveValues 38 = .ok (.getfield 27, 3) := by decide +kernel
theorem dX3_giveValues_41 : decode cX3_giveValues 41 = .ok (.iload 4, 2) := by decide +kernel
theorem dX3_giveValues_43 : decode cX3_giveValues 43 = .ok (.baload, 1) := by decide +kernel
theorem dX3_giveValues_44 : decode cX3_giveValues 44 = .ok (.ifCond .eq 21, 3) := by decide +kernel
theorem dX3_giveValues_47 : decode cX3_giveValues 47 = .ok (.aload_n 0, 1) := by decide +kernel
theorem dX3_giveValues_48 : decode cX3_giveValues 48 = .ok (.getfield 15, 3) := by decide +kernel
theorem dX3_giveValues_51 : decode cX3_giveValues 51 = .ok (.iload 4, 2) := by decide +kernel
theorem dX3_giveValues_53 : decode cX3_giveValues 53 = .ok (.iaload, 1) := by decide +kernel
theorem dX3_giveValues_54 : decode cX3_giveValues 54 = .ok (.iconst 1, 1) := by decide +kernel
theorem dX3_giveValues_55 : decode cX3_giveValues 55 = .ok (.iand, 1) := by decide +kernel
theorem dX3_giveValues_56 : decode cX3_giveValues 56 = .ok (.ifCond .ne 9, 3) := by decide +kernel
theorem dX3_giveValues_59 : decode cX3_giveValues 59 = .ok (.aload_n 0, 1) := by decide +kernel
theorem dX3_giveValues_60 : decode cX3_giveValues 60 = .ok (.iload 4, 2) := by decide +kernel
theorem dX3_giveValues_62 : decode cX3_giveValues 62 = .ok (.invokevirtual 208, 3) := by decide +kernel
theorem dX3_giveValues_65 : decode cX3_giveValues 65 = .ok (.iinc 4 1, 3) := by decide +kernel
theorem dX3_giveValues_68 : decode cX3_giveValues 68 = .ok (.goto (-49), 3) := by decide +kernel
theorem dX3_giveValues_71 : decode cX3_giveValues 71 = .ok (.iconst 0, 1) := by decide +kernel
theorem dX3_giveValues_72 : decode cX3_giveValues 72 = .ok (.istore 4, 2) := by decide +kernel
theorem dX3_giveValues_74 : decode cX3_giveValues 74 = .ok (.iload 4, 2) := by decide +kernel
theorem dX3_giveValues_76 : decode cX3_giveValues 76 = .ok (.bipush 10, 2) := by decide +kernel
theorem dX3_giveValues_78 : decode cX3_giveValues 78 = .ok (.if_icmp .ge 21, 3) := by decide +kernel
theorem dX3_giveValues_81 : decode cX3_giveValues 81 = .ok (.aload_n 0, 1) := by decide +kernel
theorem dX3_giveValues_82 : decode cX3_giveValues 82 = .ok (.aload_n 0, 1) := by decide +kernel
theorem dX3_giveValues_83 : decode cX3_giveValues 83 = .ok (.aload_n 1, 1) := by decide +kernel
theorem dX3_giveValues_84 : decode cX3_giveValues 84 = .ok (.iload_n 3, 1) := by decide +kernel
theorem dX3_giveValues_85 : decode cX3_giveValues 85 = .ok (.iload 4, 2) := by decide +kernel
theorem dX3_giveValues_87 : decode cX3_giveValues 87 = .ok (.invokevirtual 65, 3) := by decide +kernel
theorem dX3_giveValues_90 : decode cX3_giveValues 90 = .ok (.invokevirtual 208, 3) := by decide +kernel
theorem dX3_giveValues_93 : decode cX3_giveValues 93 = .ok (.iinc 4 1, 3) := by decide +kernel
theorem dX3_giveValues_96 : decode cX3_giveValues 96 = .ok (.goto (-22), 3) := by decide +kernel
theorem dX3_giveValues_99 : decode cX3_giveValues 99 = .ok (.return_, 1) := by decide +kernel
theorem dX3_giveValue_0 : decode cX3_giveValue 0 = .ok (.aload_n 0, 1) := by decide +kernel
theorem dX3_giveValue_1 : decode cX3_giveValue 1 = .ok (.iload_n 1, 1) := by decide +kernel
theorem dX3_giveValue_2 : decode cX3_giveValue 2 = .ok (.iconst 0, 1) := by decide +kernel
theorem dX3_giveValue_3 : decode cX3_giveValue 3 = .ok (.invokevirtual 211, 3) := by decide +kernel
theorem dX3_giveValue_6 : decode cX3_giveValue 6 = .ok (.istore_n 2, 1) := by decide +kernel
theorem dX3_giveValue_7 : decode cX3_giveValue 7 = .ok (.iconst 0, 1) := by decide +kernel
theorem dX3_giveValue_8 : decode cX3_giveValue 8 = .ok (.istore_n 3, 1) := by decide +kernel
theorem dX3_giveValue_9 : decode cX3_giveValue 9 = .ok (.iload_n 3, 1) := by decide +kernel
theorem dX3_giveValue_10 : decode cX3_giveValue 10 = .ok (.sipush 480, 3) := by decide +kernel
theorem dX3_giveValue_13 : decode cX3_giveValue 13 = .ok (.if_icmp .ge 93, 3) := by decide +kernel
theorem dX3_giveValue_16 : decode cX3_giveValue 16 = .ok (.iload_n 2, 1) := by decide +kernel
theorem dX3_giveValue_17 : decode cX3_giveValue 17 = .ok (.ifCond .le 89, 3) := by decide +kernel
theorem dX3_giveValue_20 : decode cX3_giveValue 20 = .ok (.aload_n 0, 1) := by decide +kernel
theorem dX3_giveValue_21 : decode cX3_giveValue 21 = .ok (.getfield 34, 3) := by decide +kernel
theorem dX3_giveValue_24 : decode cX3_giveValue 24 = .ok (.iload_n 2, 1) := by decide +kernel
theorem dX3_giveValue_25 : decode cX3_giveValue 25 = .ok (.iconst 1, 1) := by decide +kernel
theorem dX3_giveValue_26 : decode cX3_giveValue 26 = .ok (.isub, 1) := by decide +kernel
theorem dX3_giveValue_27 : decode cX3_giveValue 27 = .ok (.iaload, 1) := by decide +kernel
theorem dX3_giveValue_28 : decode cX3_giveValue 28 = .ok (.istore 4, 2) := by decide +kernel
theorem dX3_giveValue_30 : decode cX3_giveValue 30 = .ok (.aload_n 0, 1) := by decide +kernel
theorem dX3_giveValue_31 : decode cX3_giveValue 31 = .ok (.getfield 40, 3) := by decide +kernel
theorem dX3_giveValue_34 : decode cX3_giveValue 34 = .ok (.getfield 202, 3) := by decide +kernel
theorem dX3_giveValue_37 : decode cX3_giveValue 37 = .ok (.istore 5, 2) := by decide +kernel
theorem dX3_giveValue_39 : decode cX3_giveValue 39 = .ok (.aload_n 0, 1) := by decide +kernel
theorem dX3_giveValue_40 : decode cX3_giveValue 40 = .ok (.iconst (-1), 1) := by decide +kernel
theorem dX3_giveValue_41 : decode cX3_giveValue 41 = .ok (.putfield 214, 3) := by decide +kernel
theorem dX3_giveValue_44 : decode cX3_giveValue 44 = .ok (.aload_n 0, 1) := by decide +kernel
theorem dX3_giveValue_45 : decode cX3_giveValue 45 = .ok (.aload_n 0, 1) := by decide +kernel
theorem dX3_giveValue_46 : decode cX3_giveValue 46 = .ok (.getfield 11, 3) := by decide +kernel
theorem dX3_giveValue_49 : decode cX3_giveValue 49 = .ok (.iload 4, 2) := by decide +kernel
theorem dX3_giveValue_51 : decode cX3_giveValue 51 = .ok (.iaload, 1) := by decide +kernel
theorem dX3_giveValue_52 : decode cX3_giveValue 52 = .ok (.iload 4, 2) := by decide +kernel
theorem dX3_giveValue_54 : decode cX3_giveValue 54 = .ok (.iconst 0, 1) := by decide +kernel
theorem dX3_giveValue_55 : decode cX3_giveValue 55 = .ok (.invokevirtual 217, 3) := by decide +kernel
theorem dX3_giveValue_58 : decode cX3_giveValue 58 = .ok (.istore 6, 2) := by decide +kernel
theorem dX3_giveValue_60 : decode cX3_giveValue 60 = .ok (.aload_n 0, 1) := by decide +kernel
theorem dX3_giveValue_61 : decode cX3_giveValue 61 = .ok (.getfield 214, 3) := by decide +kernel
theorem dX3_giveValue_64 : decode cX3_giveValue 64 = .ok (.ifCond .lt 25, 3) := by decide +kernel
theorem dX3_giveValue_67 : decode cX3_giveValue 67 = .ok (.aload_n 0, 1) := by decide +kernel
theorem dX3_giveValue_68 : decode cX3_giveValue 68 = .ok (.getfield 40, 3) := by decide +kernel
theorem dX3_giveValue_71 : decode cX3_giveValue 71 = .ok (.iload 5, 2) := by decide +kernel
theorem dX3_giveValue_73 : decode cX3_giveValue 73 = .ok (.putfield 202, 3) := by decide +kernel
theorem dX3_giveValue_76 : decode cX3_giveValue 76 = .ok (.aload_n 0, 1) := by decide +kernel
theorem dX3_giveValue_77 : decode cX3_giveValue 77 = .ok (.aload_n 0, 1) := by decide +kernel
theorem dX3_giveValue_78 : decode cX3_giveValue 78 = .ok (.getfield 214, 3) := by decide +kernel
theorem dX3_giveValue_81 : decode cX3_giveValue 81 = .ok (.iload_n 2, 1) := by decide +kernel
theorem dX3_giveValue_82 : decode cX3_giveValue 82 = .ok (.invokevirtual 211, 3) := by decide +kernel
theorem dX3_giveValue_85 : decode cX3_giveValue 85 = .ok (.istore_n 2, 1) := by decide +kernel
theorem dX3_giveValue_86 : decode cX3_giveValue 86 = .ok (.goto 14, 3) := by decide +kernel
theorem dX3_giveValue_89 : decode cX3_giveValue 89 = .ok (.aload_n 0, 1) := by decide +kernel
theorem dX3_giveValue_90 : decode cX3_giveValue 90 = .ok (.iload 4, 2) := by decide +kernel
theorem dX3_giveValue_92 : decode cX3_giveValue 92 = .ok (.iload 6, 2) := by decide +kernel
theorem dX3_giveValue_94 : decode cX3_giveValue 94 = .ok (.invokevirtual 221, 3) := by decide +kernel
theorem dX3_giveValue_97 : decode cX3_giveValue 97 = .ok (.iinc 2 (-1), 3) := by decide +kernel
theorem dX3_giveValue_100 : decode cX3_giveValue 100 = .ok (.iinc 3 1, 3) := by decide +kernel
theorem dX3_giveValue_103 : decode cX3_giveValue 103 = .ok (.goto (-94), 3) := by decide +kernel
theorem dX3_giveValue_106 : decode cX3_giveValue 106 = .ok (.return_, 1) := by decide +kernel
theorem dX3_open_0 : decode cX3_open 0 = .ok (.iload_n 1, 1) := by decide +kernel
theorem dX3_open_1 : decode cX3_open 1 = .ok (.ifCond .lt 20, 3) := by decide +kernel
theorem dX3_open_4 : decode cX3_open 4 = .ok (.aload_n 0, 1) := by decide +kernel
theorem dX3_open_5 : decode cX3_open 5 = .ok (.getfield 31, 3) := by decide +kernel
theorem dX3_open_8 : decode cX3_open 8 = .ok (.iload_n 1, 1) := by decide +kernel
theorem dX3_open_9 : decode cX3_open 9 = .ok (.iaload, 1) := by decide +kernel
theorem dX3_open_10 : decode cX3_open 10 = .ok (.iconst (-1), 1) := by decide +kernel
theorem dX3_open_11 : decode cX3_open 11 = .ok (.if_icmp .ne 10, 3) := by decide +kernel
theorem dX3_open_14 : decode cX3_open 14 = .ok (.iload_n 2, 1) := by decide +kernel
theorem dX3_open_15 : decode cX3_open 15 = .ok (.sipush 240, 3) := by decide +kernel
theorem dX3_open_18 : decode cX3_open 18 = .ok (.if_icmp .lt 5, 3) := by decide +kernel
theorem dX3_open_21 : decode cX3_open 21 = .ok (.iload_n 2, 1) := by decide +kernel
theorem dX3_open_22 : decode cX3_open 22 = .ok (.ireturn, 1) := by decide +kernel
theorem dX3_open_23 : decode cX3_open 23 = .ok (.aload_n 0, 1) := by decide +kernel
theorem dX3_open_24 : decode cX3_open 24 = .ok (.getfield 31, 3) := by decide +kernel
theorem dX3_open_27 : decode cX3_open 27 = .ok (.iload_n 1, 1) := by decide +kernel
theorem dX3_open_28 : decode cX3_open 28 = .ok (.bipush (-2), 2) := by decide +kernel
theorem dX3_open_30 : decode cX3_open 30 = .ok (.iastore, 1) := by decide +kernel
theorem dX3_open_31 : decode cX3_open 31 = .ok (.aload_n 0, 1) := by decide +kernel
theorem dX3_open_32 : decode cX3_open 32 = .ok (.getfield 34, 3) := by decide +kernel
theorem dX3_open_35 : decode cX3_open 35 = .ok (.iload_n 2, 1) := by decide +kernel
theorem dX3_open_36 : decode cX3_open 36 = .ok (.iload_n 1, 1) := by decide +kernel
theorem dX3_open_37 : decode cX3_open 37 = .ok (.iastore, 1) := by decide +kernel
theorem dX3_open_38 : decode cX3_open 38 = .ok (.iload_n 2, 1) := by decide +kernel
theorem dX3_open_39 : decode cX3_open 39 = .ok (.iconst 1, 1) := by decide +kernel
theorem dX3_open_40 : decode cX3_open 40 = .ok (.iadd, 1) := by decide +kernel
theorem dX3_open_41 : decode cX3_open 41 = .ok (.ireturn, 1) := by decide +kernel
theorem dX3_close_0 : decode cX3_close 0 = .ok (.aload_n 0, 1) := by decide +kernel
theorem dX3_close_1 : decode cX3_close 1 = .ok (.getfield 31, 3) := by decide +kernel
theorem dX3_close_4 : decode cX3_close 4 = .ok (.iload_n 1, 1) := by decide +kernel
theorem dX3_close_5 : decode cX3_close 5 = .ok (.iload_n 2, 1) := by decide +kernel
theorem dX3_close_6 : decode cX3_close 6 = .ok (.iastore, 1) := by decide +kernel
theorem dX3_close_7 : decode cX3_close 7 = .ok (.iload_n 2, 1) := by decide +kernel
theorem dX3_close_8 : decode cX3_close 8 = .ok (.ifCond .lt 51, 3) := by decide +kernel
theorem dX3_close_11 : decode cX3_close 11 = .ok (.aload_n 0, 1) := by decide +kernel
theorem dX3_close_12 : decode cX3_close 12 = .ok (.getfield 15, 3) := by decide +kernel
theorem dX3_close_15 : decode cX3_close 15 = .ok (.iload_n 1, 1) := by decide +kernel
theorem dX3_close_16 : decode cX3_close 16 = .ok (.iaload, 1) := by decide +kernel
theorem dX3_close_17 : decode cX3_close 17 = .ok (.iconst 2, 1) := by decide +kernel
theorem dX3_close_18 : decode cX3_close 18 = .ok (.iand, 1) := by decide +kernel
theorem dX3_close_19 : decode cX3_close 19 = .ok (.ifCond .eq 40, 3) := by decide +kernel
theorem dX3_close_22 : decode cX3_close 22 = .ok (.aload_n 0, 1) := by decide +kernel
theorem dX3_close_23 : decode cX3_close 23 = .ok (.getfield 205, 3) := by decide +kernel
theorem dX3_close_26 : decode cX3_close 26 = .ok (.sipush 240, 3) := by decide +kernel
theorem dX3_close_29 : decode cX3_close 29 = .ok (.if_icmp .ge 30, 3) := by decide +kernel
theorem dX3_close_32 : decode cX3_close 32 = .ok (.aload_n 0, 1) := by decide +kernel
theorem dX3_close_33 : decode cX3_close 33 = .ok (.getfield 44, 3) := by decide +kernel
theorem dX3_close_36 : decode cX3_close 36 = .ok (.aload_n 0, 1) := by decide +kernel
theorem dX3_close_37 : decode cX3_close 37 = .ok (.getfield 205, 3) := by decide +kernel
theorem dX3_close_40 : decode cX3_close 40 = .ok (.aload_n 0, 1) := by decide +kernel
theorem dX3_close_41 : decode cX3_close 41 = .ok (.getfield 40, 3) := by decide +kernel
theorem dX3_close_44 : decode cX3_close 44 = .ok (.iload_n 2, 1) := by decide +kernel
theorem dX3_close_45 : decode cX3_close 45 = .ok (.invokevirtual 224, 3) := by decide +kernel
theorem dX3_close_48 : decode cX3_close 48 = .ok (.iastore, 1) := by decide +kernel
theorem dX3_close_49 : decode cX3_close 49 = .ok (.aload_n 0, 1) := by decide +kernel
theorem dX3_close_50 : decode cX3_close 50 = .ok (.dup, 1) := by decide +kernel
theorem dX3_close_51 : decode cX3_close 51 = .ok (.getfield 205, 3) := by decide +kernel
theorem dX3_close_54 : decode cX3_close 54 = .ok (.iconst 1, 1) := by decide +kernel
theorem dX3_close_55 : decode cX3_close 55 = .ok (.iadd, 1) := by decide +kernel
theorem dX3_close_56 : decode cX3_close 56 = .ok (.putfield 205, 3) := by decide +kernel
theorem dX3_close_59 : decode cX3_close 59 = .ok (.return_, 1) := by decide +kernel
theorem dX3_evaluate_0 : decode cX3_evaluate 0 = .ok (.iload_n 1, 1) := by decide +kernel
theorem dX3_evaluate_1 : decode cX3_evaluate 1 = .ok (.ifCond .lt 9, 3) := by decide +kernel
theorem dX3_evaluate_4 : decode cX3_evaluate 4 = .ok (.iload_n 3, 1) := by decide +kernel
theorem dX3_evaluate_5 : decode cX3_evaluate 5 = .ok (.bipush 12, 2) := by decide +kernel
theorem dX3_evaluate_7 : decode cX3_evaluate 7 = .ok (.if_icmp .le 6, 3) := by decide +kernel
theorem dX3_evaluate_10 : decode cX3_evaluate 10 = .ok (.bipush (-3), 2) := by decide +kernel
theorem dX3_evaluate_12 : decode cX3_evaluate 12 = .ok (.ireturn, 1) := by decide +kernel
theorem dX3_evaluate_13 : decode cX3_evaluate 13 = .ok (.aload_n 0, 1) := by decide +kernel
theorem dX3_evaluate_14 : decode cX3_evaluate 14 = .ok (.getfield 50, 3) := by decide +kernel
theorem dX3_evaluate_17 : decode cX3_evaluate 17 = .ok (.getfield 227, 3) := by decide +kernel
theorem dX3_evaluate_20 : decode cX3_evaluate 20 = .ok (.iload_n 1, 1) := by decide +kernel
theorem dX3_evaluate_21 : decode cX3_evaluate 21 = .ok (.iaload, 1) := by decide +kernel
theorem dX3_evaluate_22 : decode cX3_evaluate 22 = .ok (.tableswitch 95 0 6 #[79, 79, 95, 95, 87, 42, 60], 42) := by decide +kernel
theorem dX3_evaluate_64 : decode cX3_evaluate 64 = .ok (.aload_n 0, 1) := by decide +kernel
theorem dX3_evaluate_65 : decode cX3_evaluate 65 = .ok (.getfield 40, 3) := by decide +kernel
theorem dX3_evaluate_68 : decode cX3_evaluate 68 = .ok (.aload_n 0, 1) := by decide +kernel
theorem dX3_evaluate_69 : decode cX3_evaluate 69 = .ok (.getfield 50, 3) := by decide +kernel
theorem dX3_evaluate_72 : decode cX3_evaluate 72 = .ok (.getfield 230, 3) := by decide +kernel
theorem dX3_evaluate_75 : decode cX3_evaluate 75 = .ok (.iload_n 1, 1) := by decide +kernel
theorem dX3_evaluate_76 : decode cX3_evaluate 76 = .ok (.iaload, 1) := by decide +kernel
theorem dX3_evaluate_77 : decode cX3_evaluate 77 = .ok (.iconst (-1), 1) := by decide +kernel
theorem dX3_evaluate_78 : decode cX3_evaluate 78 = .ok (.invokevirtual 233, 3) := by decide +kernel
theorem dX3_evaluate_81 : decode cX3_evaluate 81 = .ok (.ireturn, 1) := by decide +kernel
theorem dX3_evaluate_82 : decode cX3_evaluate 82 = .ok (.aload_n 0, 1) := by decide +kernel
theorem dX3_evaluate_83 : decode cX3_evaluate 83 = .ok (.aload_n 0, 1) := by decide +kernel
theorem dX3_evaluate_84 : decode cX3_evaluate 84 = .ok (.iload_n 2, 1) := by decide +kernel
theorem dX3_evaluate_85 : decode cX3_evaluate 85 = .ok (.aload_n 0, 1) := by decide +kernel
theorem dX3_evaluate_86 : decode cX3_evaluate 86 = .ok (.getfield 50, 3) := by decide +kernel
theorem dX3_evaluate_89 : decode cX3_evaluate 89 = .ok (.getfield 230, 3) := by decide +kernel
theorem dX3_evaluate_92 : decode cX3_evaluate 92 = .ok (.iload_n 1, 1) := by decide +kernel
theorem dX3_evaluate_93 : decode cX3_evaluate 93 = .ok (.iaload, 1) := by decide +kernel
theorem dX3_evaluate_94 : decode cX3_evaluate 94 = .ok (.invokevirtual 187, 3) := by decide +kernel
theorem dX3_evaluate_97 : decode cX3_evaluate 97 = .ok (.invokevirtual 236, 3) := by decide +kernel
theorem dX3_evaluate_100 : decode cX3_evaluate 100 = .ok (.ireturn, 1) := by decide +kernel
theorem dX3_evaluate_101 : decode cX3_evaluate 101 = .ok (.aload_n 0, 1) := by decide +kernel
theorem dX3_evaluate_102 : decode cX3_evaluate 102 = .ok (.iload_n 1, 1) := by decide +kernel
theorem dX3_evaluate_103 : decode cX3_evaluate 103 = .ok (.iload_n 2, 1) := by decide +kernel
theorem dX3_evaluate_104 : decode cX3_evaluate 104 = .ok (.iload_n 3, 1) := by decide +kernel
theorem dX3_evaluate_105 : decode cX3_evaluate 105 = .ok (.invokevirtual 239, 3) := by decide +kernel
theorem dX3_evaluate_108 : decode cX3_evaluate 108 = .ok (.ireturn, 1) := by decide +kernel
theorem dX3_evaluate_109 : decode cX3_evaluate 109 = .ok (.aload_n 0, 1) := by decide +kernel
theorem dX3_evaluate_110 : decode cX3_evaluate 110 = .ok (.iload_n 1, 1) := by decide +kernel
theorem dX3_evaluate_111 : decode cX3_evaluate 111 = .ok (.iload_n 2, 1) := by decide +kernel
theorem dX3_evaluate_112 : decode cX3_evaluate 112 = .ok (.iload_n 3, 1) := by decide +kernel
theorem dX3_evaluate_113 : decode cX3_evaluate 113 = .ok (.invokevirtual 242, 3) := by decide +kernel
theorem dX3_evaluate_116 : decode cX3_evaluate 116 = .ok (.ireturn, 1) := by decide +kernel
theorem dX3_evaluate_117 : decode cX3_evaluate 117 = .ok (.aload_n 0, 1) := by decide +kernel
theorem dX3_evaluate_118 : decode cX3_evaluate 118 = .ok (.iload_n 1, 1) := by decide +kernel
theorem dX3_evaluate_119 : decode cX3_evaluate 119 = .ok (.iload_n 2, 1) := by decide +kernel
theorem dX3_evaluate_120 : decode cX3_evaluate 120 = .ok (.iload_n 3, 1) := by decide +kernel
theorem dX3_evaluate_121 : decode cX3_evaluate 121 = .ok (.invokevirtual 245, 3) := by decide +kernel
theorem dX3_evaluate_124 : decode cX3_evaluate 124 = .ok (.ireturn, 1) := by decide +kernel
theorem dX3_evaluateRef_0 : decode cX3_evaluateRef 0 = .ok (.iload_n 1, 1) := by decide +kernel
theorem dX3_evaluateRef_1 : decode cX3_evaluateRef 1 = .ok (.ifCond .ge 6, 3) := by decide +kernel
theorem dX3_evaluateRef_4 : decode cX3_evaluateRef 4 = .ok (.bipush (-3), 2) := by decide +kernel
theorem dX3_evaluateRef_6 : decode cX3_evaluateRef 6 = .ok (.ireturn, 1) := by decide +kernel
theorem dX3_evaluateRef_7 : decode cX3_evaluateRef 7 = .ok (.aload_n 0, 1) := by decide +kernel
theorem dX3_evaluateRef_8 : decode cX3_evaluateRef 8 = .ok (.getfield 31, 3) := by decide +kernel
theorem dX3_evaluateRef_11 : decode cX3_evaluateRef 11 = .ok (.iload_n 1, 1) := by decide +kernel
theorem dX3_evaluateRef_12 : decode cX3_evaluateRef 12 = .ok (.iaload, 1) := by decide +kernel
theorem dX3_evaluateRef_13 : decode cX3_evaluateRef 13 = .ok (.iconst (-1), 1) := by decide +kernel
theorem dX3_evaluateRef_14 : decode cX3_evaluateRef 14 = .ok (.if_icmp .ne 8, 3) := by decide +kernel
theorem dX3_evaluateRef_17 : decode cX3_evaluateRef 17 = .ok (.aload_n 0, 1) := by decide +kernel
theorem dX3_evaluateRef_18 : decode cX3_evaluateRef 18 = .ok (.iload_n 1, 1) := by decide +kernel
theorem dX3_evaluateRef_19 : decode cX3_evaluateRef 19 = .ok (.putfield 214, 3) := by decide +kernel
theorem dX3_evaluateRef_22 : decode cX3_evaluateRef 22 = .ok (.aload_n 0, 1) := by decide +kernel
theorem dX3_evaluateRef_23 : decode cX3_evaluateRef 23 = .ok (.getfield 31, 3) := by decide +kernel
theorem dX3_evaluateRef_26 : decode cX3_evaluateRef 26 = .ok (.iload_n 1, 1) := by decide +kernel
theorem dX3_evaluateRef_27 : decode cX3_evaluateRef 27 = .ok (.iaload, 1) := by decide +kernel
theorem dX3_evaluateRef_28 : decode cX3_evaluateRef 28 = .ok (.ifCond .lt 12, 3) := by decide +kernel
theorem dX3_evaluateRef_31 : decode cX3_evaluateRef 31 = .ok (.aload_n 0, 1) := by decide +kernel
theorem dX3_evaluateRef_32 : decode cX3_evaluateRef 32 = .ok (.getfield 31, 3) := by decide +kernel
theorem dX3_evaluateRef_35 : decode cX3_evaluateRef 35 = .ok (.iload_n 1, 1) := by decide +kernel
theorem dX3_evaluateRef_36 : decode cX3_evaluateRef 36 = .ok (.iaload, 1) := by decide +kernel
theorem dX3_evaluateRef_37 : decode cX3_evaluateRef 37 = .ok (.goto 5, 3) := by decide +kernel
theorem dX3_evaluateRef_40 : decode cX3_evaluateRef 40 = .ok (.bipush (-3), 2) := by decide +kernel
theorem dX3_evaluateRef_42 : decode cX3_evaluateRef 42 = .ok (.ireturn, 1) := by decide +kernel
theorem dX3_evaluateBoth_0 : decode cX3_evaluateBoth 0 = .ok (.aload_n 0, 1) := by decide +kernel
theorem dX3_evaluateBoth_1 : decode cX3_evaluateBoth 1 = .ok (.aload_n 0, 1) := by decide +kernel
theorem dX3_evaluateBoth_2 : decode cX3_evaluateBoth 2 = .ok (.getfield 50, 3) := by decide +kernel
theorem dX3_evaluateBoth_5 : decode cX3_evaluateBoth 5 = .ok (.getfield 230, 3) := by decide +kernel
theorem dX3_evaluateBoth_8 : decode cX3_evaluateBoth 8 = .ok (.iload_n 1, 1) := by decide +kernel
theorem dX3_evaluateBoth_9 : decode cX3_evaluateBoth 9 = .ok (.iaload, 1) := by decide +kernel
theorem dX3_evaluateBoth_10 : decode cX3_evaluateBoth 10 = .ok (.iload_n 2, 1) := by decide +kernel
theorem dX3_evaluateBoth_11 : decode cX3_evaluateBoth 11 = .ok (.iload_n 3, 1) := by decide +kernel
theorem dX3_evaluateBoth_12 : decode cX3_evaluateBoth 12 = .ok (.iconst 1, 1) := by decide +kernel
theorem dX3_evaluateBoth_13 : decode cX3_evaluateBoth 13 = .ok (.iadd, 1) := by decide +kernel
theorem dX3_evaluateBoth_14 : decode cX3_evaluateBoth 14 = .ok (.invokevirtual 217, 3) := by decide +kernel
theorem dX3_evaluateBoth_17 : decode cX3_evaluateBoth 17 = .ok (.istore 4, 2) := by decide +kernel
theorem dX3_evaluateBoth_19 : decode cX3_evaluateBoth 19 = .ok (.iload 4, 2) := by decide +kernel
theorem dX3_evaluateBoth_21 : decode cX3_evaluateBoth 21 = .ok (.ifCond .ge 8, 3) := by decide +kernel
theorem dX3_evaluateBoth_24 : decode cX3_evaluateBoth 24 = .ok (.bipush (-3), 2) := by decide +kernel
theorem dX3_evaluateBoth_26 : decode cX3_evaluateBoth 26 = .ok (.goto 20, 3) := by decide +kernel
theorem dX3_evaluateBoth_29 : decode cX3_evaluateBoth 29 = .ok (.aload_n 0, 1) := by decide +kernel
theorem dX3_evaluateBoth_30 : decode cX3_evaluateBoth 30 = .ok (.aload_n 0, 1) := by decide +kernel
theorem dX3_evaluateBoth_31 : decode cX3_evaluateBoth 31 = .ok (.getfield 50, 3) := by decide +kernel
theorem dX3_evaluateBoth_34 : decode cX3_evaluateBoth 34 = .ok (.getfield 248, 3) := by decide +kernel
theorem dX3_evaluateBoth_37 : decode cX3_evaluateBoth 37 = .ok (.iload_n 1, 1) := by decide +kernel
theorem dX3_evaluateBoth_38 : decode cX3_evaluateBoth 38 = .ok (.iaload, 1) := by decide +kernel
theorem dX3_evaluateBoth_39 : decode cX3_evaluateBoth 39 = .ok (.iload_n 2, 1) := by decide +kernel
theorem dX3_evaluateBoth_40 : decode cX3_evaluateBoth 40 = .ok (.iload_n 3, 1) := by decide +kernel
theorem dX3_evaluateBoth_41 : decode cX3_evaluateBoth 41 = .ok (.iconst 1, 1) := by decide +kernel
theorem dX3_evaluateBoth_42 : decode cX3_evaluateBoth 42 = .ok (.iadd, 1) := by decide +kernel
theorem dX3_evaluateBoth_43 : decode cX3_evaluateBoth 43 = .ok (.invokevirtual 217, 3) := by decide +kernel
theorem dX3_evaluateBoth_46 : decode cX3_evaluateBoth 46 = .ok (.istore 5, 2) := by decide +kernel
theorem dX3_evaluateBoth_48 : decode cX3_evaluateBoth 48 = .ok (.iload 5, 2) := by decide +kernel
theorem dX3_evaluateBoth_50 : decode cX3_evaluateBoth 50 = .ok (.ifCond .ge 6, 3) := by decide +kernel
theorem dX3_evaluateBoth_53 : decode cX3_evaluateBoth 53 = .ok (.bipush (-3), 2) := by decide +kernel
theorem dX3_evaluateBoth_55 : decode cX3_evaluateBoth 55 = .ok (.ireturn, 1) := by decide +kernel
theorem dX3_evaluateBoth_56 : decode cX3_evaluateBoth 56 = .ok (.aload_n 0, 1) := by decide +kernel
theorem dX3_evaluateBoth_57 : decode cX3_evaluateBoth 57 = .ok (.getfield 50, 3) := by decide +kernel
theorem dX3_evaluateBoth_60 : decode cX3_evaluateBoth 60 = .ok (.getfield 227, 3) := by decide +kernel
theorem dX3_evaluateBoth_63 : decode cX3_evaluateBoth 63 = .ok (.iload_n 1, 1) := by decide +kernel
theorem dX3_evaluateBoth_64 : decode cX3_evaluateBoth 64 = .ok (.iaload, 1) := by decide +kernel
theorem dX3_evaluateBoth_65 : decode cX3_evaluateBoth 65 = .ok (.iconst 1, 1) := by decide +kernel
theorem dX3_evaluateBoth_66 : decode cX3_evaluateBoth 66 = .ok (.if_icmp .ne 15, 3) := by decide +kernel
theorem dX3_evaluateBoth_69 : decode cX3_evaluateBoth 69 = .ok (.aload_n 0, 1) := by decide +kernel
theorem dX3_evaluateBoth_70 : decode cX3_evaluateBoth 70 = .ok (.getfield 40, 3) := by decide +kernel
theorem dX3_evaluateBoth_73 : decode cX3_evaluateBoth 73 = .ok (.iload 4, 2) := by decide +kernel
theorem dX3_evaluateBoth_75 : decode cX3_evaluateBoth 75 = .ok (.iload 5, 2) := by decide +kernel
theorem dX3_evaluateBoth_77 : decode cX3_evaluateBoth 77 = .ok (.invokevirtual 233, 3) := by decide +kernel
theorem dX3_evaluateBoth_80 : decode cX3_evaluateBoth 80 = .ok (.ireturn, 1) := by decide +kernel
theorem dX3_evaluateBoth_81 : decode cX3_evaluateBoth 81 = .ok (.aload_n 0, 1) := by decide +kernel
theorem dX3_evaluateBoth_82 : decode cX3_evaluateBoth 82 = .ok (.getfield 40, 3) := by decide +kernel
theorem dX3_evaluateBoth_85 : decode cX3_evaluateBoth 85 = .ok (.iload 4, 2) := by decide +kernel
theorem dX3_evaluateBoth_87 : decode cX3_evaluateBoth 87 = .ok (.invokevirtual 135, 3) := by decide +kernel
theorem dX3_evaluateBoth_90 : decode cX3_evaluateBoth 90 = .ok (.ifCond .ne 15, 3) := by decide +kernel
theorem dX3_evaluateBoth_93 : decode cX3_evaluateBoth 93 = .ok (.aload_n 0, 1) := by decide +kernel
theorem dX3_evaluateBoth_94 : decode cX3_evaluateBoth 94 = .ok (.getfield 40, 3) := by decide +kernel
theorem dX3_evaluateBoth_97 : decode cX3_evaluateBoth 97 = .ok (.iload 5, 2) := by decide +kernel
theorem dX3_evaluateBoth_99 : decode cX3_evaluateBoth 99 = .ok (.invokevirtual 135, 3) := by decide +kernel
theorem dX3_evaluateBoth_102 : decode cX3_evaluateBoth 102 = .ok (.ifCond .eq 8, 3) := by decide +kernel
theorem dX3_evaluateBoth_105 : decode cX3_evaluateBoth 105 = .ok (.bipush (-3), 2) := by decide +kernel
theorem dX3_evaluateBoth_107 : decode cX3_evaluateBoth 107 = .ok (.goto 30, 3) := by decide +kernel
theorem dX3_evaluateBoth_110 : decode cX3_evaluateBoth 110 = .ok (.aload_n 0, 1) := by decide +kernel
theorem dX3_evaluateBoth_111 : decode cX3_evaluateBoth 111 = .ok (.getfield 40, 3) := by decide +kernel
theorem dX3_evaluateBoth_114 : decode cX3_evaluateBoth 114 = .ok (.aload_n 0, 1) := by decide +kernel
theorem dX3_evaluateBoth_115 : decode cX3_evaluateBoth 115 = .ok (.getfield 40, 3) := by decide +kernel
theorem dX3_evaluateBoth_118 : decode cX3_evaluateBoth 118 = .ok (.iload 4, 2) := by decide +kernel
theorem dX3_evaluateBoth_120 : decode cX3_evaluateBoth 120 = .ok (.invokevirtual 138, 3) := by decide +kernel
theorem dX3_evaluateBoth_123 : decode cX3_evaluateBoth 123 = .ok (.aload_n 0, 1) := by decide +kernel
theorem dX3_evaluateBoth_124 : decode cX3_evaluateBoth 124 = .ok (.getfield 40, 3) := by decide +kernel
theorem dX3_evaluateBoth_127 : decode cX3_evaluateBoth 127 = .ok (.iload 5, 2) := by decide +kernel
theorem dX3_evaluateBoth_129 : decode cX3_evaluateBoth 129 = .ok (.invokevirtual 138, 3) := by decide +kernel
theorem dX3_evaluateBoth_132 : decode cX3_evaluateBoth 132 = .ok (.iadd, 1) := by decide +kernel
theorem dX3_evaluateBoth_133 : decode cX3_evaluateBoth 133 = .ok (.iconst (-1), 1) := by decide +kernel
theorem dX3_evaluateBoth_134 : decode cX3_evaluateBoth 134 = .ok (.invokevirtual 233, 3) := by decide +kernel
theorem dX3_evaluateBoth_137 : decode cX3_evaluateBoth 137 = .ok (.ireturn, 1) := by decide +kernel
theorem dX3_evaluateWhen_0 : decode cX3_evaluateWhen 0 = .ok (.aload_n 0, 1) := by decide +kernel
theorem dX3_evaluateWhen_1 : decode cX3_evaluateWhen 1 = .ok (.aload_n 0, 1) := by decide +kernel
theorem dX3_evaluateWhen_2 : decode cX3_evaluateWhen 2 = .ok (.getfield 50, 3) := by decide +kernel
theorem dX3_evaluateWhen_5 : decode cX3_evaluateWhen 5 = .ok (.getfield 230, 3) := by decide +kernel
theorem dX3_evaluateWhen_8 : decode cX3_evaluateWhen 8 = .ok (.iload_n 1, 1) := by decide +kernel
theorem dX3_evaluateWhen_9 : decode cX3_evaluateWhen 9 = .ok (.iaload, 1) := by decide +kernel
theorem dX3_evaluateWhen_10 : decode cX3_evaluateWhen 10 = .ok (.iload_n 2, 1) := by decide +kernel
theorem dX3_evaluateWhen_11 : decode cX3_evaluateWhen 11 = .ok (.iload_n 3, 1) := by decide +kernel
theorem dX3_evaluateWhen_12 : decode cX3_evaluateWhen 12 = .ok (.iconst 1, 1) := by decide +kernel
theorem dX3_evaluateWhen_13 : decode cX3_evaluateWhen 13 = .ok (.iadd, 1) := by decide +kernel
theorem dX3_evaluateWhen_14 : decode cX3_evaluateWhen 14 = .ok (.invokevirtual 217, 3) := by decide +kernel
theorem dX3_evaluateWhen_17 : decode cX3_evaluateWhen 17 = .ok (.istore 4, 2) := by decide +kernel
theorem dX3_evaluateWhen_19 : decode cX3_evaluateWhen 19 = .ok (.iload 4, 2) := by decide +kernel
theorem dX3_evaluateWhen_21 : decode cX3_evaluateWhen 21 = .ok (.ifCond .lt 15, 3) := by decide +kernel
theorem dX3_evaluateWhen_24 : decode cX3_evaluateWhen 24 = .ok (.aload_n 0, 1) := by decide +kernel
theorem dX3_evaluateWhen_25 : decode cX3_evaluateWhen 25 = .ok (.getfield 40, 3) := by decide +kernel
theorem dX3_evaluateWhen_28 : decode cX3_evaluateWhen 28 = .ok (.iload 4, 2) := by decide +kernel
theorem dX3_evaluateWhen_30 : decode cX3_evaluateWhen 30 = .ok (.invokevirtual 135, 3) := by decide +kernel
theorem dX3_evaluateWhen_33 : decode cX3_evaluateWhen 33 = .ok (.ifCond .eq 6, 3) := by decide +kernel
theorem dX3_evaluateWhen_36 : decode cX3_evaluateWhen 36 = .ok (.bipush (-3), 2) := by decide +kernel
theorem dX3_evaluateWhen_38 : decode cX3_evaluateWhen 38 = .ok (.ireturn, 1) := by decide +kernel
theorem dX3_evaluateWhen_39 : decode cX3_evaluateWhen 39 = .ok (.aload_n 0, 1) := by decide +kernel
theorem dX3_evaluateWhen_40 : decode cX3_evaluateWhen 40 = .ok (.getfield 40, 3) := by decide +kernel
theorem dX3_evaluateWhen_43 : decode cX3_evaluateWhen 43 = .ok (.iload 4, 2) := by decide +kernel
theorem dX3_evaluateWhen_45 : decode cX3_evaluateWhen 45 = .ok (.invokevirtual 138, 3) := by decide +kernel
theorem dX3_evaluateWhen_48 : decode cX3_evaluateWhen 48 = .ok (.ifCond .eq 7, 3) := by decide +kernel
theorem dX3_evaluateWhen_51 : decode cX3_evaluateWhen 51 = .ok (.iconst 1, 1) := by decide +kernel
theorem dX3_evaluateWhen_52 : decode cX3_evaluateWhen 52 = .ok (.goto 4, 3) := by decide +kernel
theorem dX3_evaluateWhen_55 : decode cX3_evaluateWhen 55 = .ok (.iconst 0, 1) := by decide +kernel
theorem dX3_evaluateWhen_56 : decode cX3_evaluateWhen 56 = .ok (.istore 5, 2) := by decide +kernel
theorem dX3_evaluateWhen_58 : decode cX3_evaluateWhen 58 = .ok (.aload_n 0, 1) := by decide +kernel
theorem dX3_evaluateWhen_59 : decode cX3_evaluateWhen 59 = .ok (.iload 5, 2) := by decide +kernel
theorem dX3_evaluateWhen_61 : decode cX3_evaluateWhen 61 = .ok (.ifCond .eq 15, 3) := by decide +kernel
theorem dX3_evaluateWhen_64 : decode cX3_evaluateWhen 64 = .ok (.aload_n 0, 1) := by decide +kernel
theorem dX3_evaluateWhen_65 : decode cX3_evaluateWhen 65 = .ok (.getfield 50, 3) := by decide +kernel
theorem dX3_evaluateWhen_68 : decode cX3_evaluateWhen 68 = .ok (.getfield 248, 3) := by decide +kernel
theorem dX3_evaluateWhen_71 : decode cX3_evaluateWhen 71 = .ok (.iload_n 1, 1) := by decide +kernel
theorem dX3_evaluateWhen_72 : decode cX3_evaluateWhen 72 = .ok (.iaload, 1) := by decide +kernel
theorem dX3_evaluateWhen_73 : decode cX3_evaluateWhen 73 = .ok (.goto 12, 3) := by decide +kernel
theorem dX3_evaluateWhen_76 : decode cX3_evaluateWhen 76 = .ok (.aload_n 0, 1) := by decide +kernel
theorem dX3_evaluateWhen_77 : decode cX3_evaluateWhen 77 = .ok (.getfield 50, 3) := by decide +kernel
theorem dX3_evaluateWhen_80 : decode cX3_evaluateWhen 80 = .ok (.getfield 251, 3) := by decide +kernel
theorem dX3_evaluateWhen_83 : decode cX3_evaluateWhen 83 = .ok (.iload_n 1, 1) := by decide +kernel
theorem dX3_evaluateWhen_84 : decode cX3_evaluateWhen 84 = .ok (.iaload, 1) := by decide +kernel
theorem dX3_evaluateWhen_85 : decode cX3_evaluateWhen 85 = .ok (.iload_n 2, 1) := by decide +kernel
theorem dX3_evaluateWhen_86 : decode cX3_evaluateWhen 86 = .ok (.iload_n 3, 1) := by decide +kernel
theorem dX3_evaluateWhen_87 : decode cX3_evaluateWhen 87 = .ok (.iconst 1, 1) := by decide +kernel
theorem dX3_evaluateWhen_88 : decode cX3_evaluateWhen 88 = .ok (.iadd, 1) := by decide +kernel
theorem dX3_evaluateWhen_89 : decode cX3_evaluateWhen 89 = .ok (.invokevirtual 217, 3) := by decide +kernel
theorem dX3_evaluateWhen_92 : decode cX3_evaluateWhen 92 = .ok (.ireturn, 1) := by decide +kernel
theorem dX3_evaluateHalf_0 : decode cX3_evaluateHalf 0 = .ok (.aload_n 0, 1) := by decide +kernel
theorem dX3_evaluateHalf_1 : decode cX3_evaluateHalf 1 = .ok (.aload_n 0, 1) := by decide +kernel
theorem dX3_evaluateHalf_2 : decode cX3_evaluateHalf 2 = .ok (.getfield 50, 3) := by decide +kernel
theorem dX3_evaluateHalf_5 : decode cX3_evaluateHalf 5 = .ok (.getfield 230, 3) := by decide +kernel
theorem dX3_evaluateHalf_8 : decode cX3_evaluateHalf 8 = .ok (.iload_n 1, 1) := by decide +kernel
theorem dX3_evaluateHalf_9 : decode cX3_evaluateHalf 9 = .ok (.iaload, 1) := by decide +kernel
theorem dX3_evaluateHalf_10 : decode cX3_evaluateHalf 10 = .ok (.iload_n 2, 1) := by decide +kernel
theorem dX3_evaluateHalf_11 : decode cX3_evaluateHalf 11 = .ok (.iload_n 3, 1) := by decide +kernel
theorem dX3_evaluateHalf_12 : decode cX3_evaluateHalf 12 = .ok (.iconst 1, 1) := by decide +kernel
theorem dX3_evaluateHalf_13 : decode cX3_evaluateHalf 13 = .ok (.iadd, 1) := by decide +kernel
theorem dX3_evaluateHalf_14 : decode cX3_evaluateHalf 14 = .ok (.invokevirtual 217, 3) := by decide +kernel
theorem dX3_evaluateHalf_17 : decode cX3_evaluateHalf 17 = .ok (.istore 4, 2) := by decide +kernel
theorem dX3_evaluateHalf_19 : decode cX3_evaluateHalf 19 = .ok (.iload 4, 2) := by decide +kernel
theorem dX3_evaluateHalf_21 : decode cX3_evaluateHalf 21 = .ok (.ifCond .lt 15, 3) := by decide +kernel
theorem dX3_evaluateHalf_24 : decode cX3_evaluateHalf 24 = .ok (.aload_n 0, 1) := by decide +kernel
theorem dX3_evaluateHalf_25 : decode cX3_evaluateHalf 25 = .ok (.getfield 40, 3) := by decide +kernel
theorem dX3_evaluateHalf_28 : decode cX3_evaluateHalf 28 = .ok (.iload 4, 2) := by decide +kernel
theorem dX3_evaluateHalf_30 : decode cX3_evaluateHalf 30 = .ok (.invokevirtual 135, 3) := by decide +kernel
theorem dX3_evaluateHalf_33 : decode cX3_evaluateHalf 33 = .ok (.ifCond .ne 6, 3) := by decide +kernel
theorem dX3_evaluateHalf_36 : decode cX3_evaluateHalf 36 = .ok (.bipush (-3), 2) := by decide +kernel
theorem dX3_evaluateHalf_38 : decode cX3_evaluateHalf 38 = .ok (.ireturn, 1) := by decide +kernel
theorem dX3_evaluateHalf_39 : decode cX3_evaluateHalf 39 = .ok (.aload_n 0, 1) := by decide +kernel
theorem dX3_evaluateHalf_40 : decode cX3_evaluateHalf 40 = .ok (.getfield 50, 3) := by decide +kernel
theorem dX3_evaluateHalf_43 : decode cX3_evaluateHalf 43 = .ok (.getfield 227, 3) := by decide +kernel
theorem dX3_evaluateHalf_46 : decode cX3_evaluateHalf 46 = .ok (.iload_n 1, 1) := by decide +kernel
theorem dX3_evaluateHalf_47 : decode cX3_evaluateHalf 47 = .ok (.iaload, 1) := by decide +kernel
theorem dX3_evaluateHalf_48 : decode cX3_evaluateHalf 48 = .ok (.iconst 2, 1) := by decide +kernel
theorem dX3_evaluateHalf_49 : decode cX3_evaluateHalf 49 = .ok (.if_icmp .ne 15, 3) := by decide +kernel
theorem dX3_evaluateHalf_52 : decode cX3_evaluateHalf 52 = .ok (.aload_n 0, 1) := by decide +kernel
theorem dX3_evaluateHalf_53 : decode cX3_evaluateHalf 53 = .ok (.getfield 40, 3) := by decide +kernel
theorem dX3_evaluateHalf_56 : decode cX3_evaluateHalf 56 = .ok (.iload 4, 2) := by decide +kernel
theorem dX3_evaluateHalf_58 : decode cX3_evaluateHalf 58 = .ok (.invokevirtual 138, 3) := by decide +kernel
theorem dX3_evaluateHalf_61 : decode cX3_evaluateHalf 61 = .ok (.goto 12, 3) := by decide +kernel
theorem dX3_evaluateHalf_64 : decode cX3_evaluateHalf 64 = .ok (.aload_n 0, 1) := by decide +kernel
theorem dX3_evaluateHalf_65 : decode cX3_evaluateHalf 65 = .ok (.getfield 40, 3) := by decide +kernel
theorem dX3_evaluateHalf_68 : decode cX3_evaluateHalf 68 = .ok (.iload 4, 2) := by decide +kernel
theorem dX3_evaluateHalf_70 : decode cX3_evaluateHalf 70 = .ok (.invokevirtual 254, 3) := by decide +kernel
theorem dX3_evaluateHalf_73 : decode cX3_evaluateHalf 73 = .ok (.ireturn, 1) := by decide +kernel
theorem dX4_init_0 : decode cX4_init 0 = .ok (.aload_n 0, 1) := by decide +kernel
theorem dX4_init_1 : decode cX4_init 1 = .ok (.invokespecial 3, 3) := by decide +kernel
theorem dX4_init_4 : decode cX4_init 4 = .ok (.aload_n 0, 1) := by decide +kernel
theorem dX4_init_5 : decode cX4_init 5 = .ok (.new 9, 3) := by decide +kernel
theorem dX4_init_8 : decode cX4_init 8 = .ok (.dup, 1) := by decide +kernel
theorem dX4_init_9 : decode cX4_init 9 = .ok (.invokespecial 11, 3) := by decide +kernel
theorem dX4_init_12 : decode cX4_init 12 = .ok (.putfield 12, 3) := by decide +kernel
theorem dX4_init_15 : decode cX4_init 15 = .ok (.aload_n 0, 1) := by decide +kernel
theorem dX4_init_16 : decode cX4_init 16 = .ok (.new 18, 3) := by decide +kernel
theorem dX4_init_19 : decode cX4_init 19 = .ok (.dup, 1) := by decide +kernel
theorem dX4_init_20 : decode cX4_init 20 = .ok (.invokespecial 20, 3) := by decide +kernel
theorem dX4_init_23 : decode cX4_init 23 = .ok (.putfield 21, 3) := by decide +kernel
theorem dX4_init_26 : decode cX4_init 26 = .ok (.aload_n 0, 1) := by decide +kernel
theorem dX4_init_27 : decode cX4_init 27 = .ok (.new 18, 3) := by decide +kernel
theorem dX4_init_30 : decode cX4_init 30 = .ok (.dup, 1) := by decide +kernel
theorem dX4_init_31 : decode cX4_init 31 = .ok (.invokespecial 20, 3) := by decide +kernel
theorem dX4_init_34 : decode cX4_init 34 = .ok (.putfield 25, 3) := by decide +kernel
theorem dX4_init_37 : decode cX4_init 37 = .ok (.aload_n 0, 1) := by decide +kernel
theorem dX4_init_38 : decode cX4_init 38 = .ok (.iconst (-1), 1) := by decide +kernel
theorem dX4_init_39 : decode cX4_init 39 = .ok (.putfield 28, 3) := by decide +kernel
theorem dX4_init_42 : decode cX4_init 42 = .ok (.aload_n 0, 1) := by decide +kernel
theorem dX4_init_43 : decode cX4_init 43 = .ok (.iload_n 1, 1) := by decide +kernel
theorem dX4_init_44 : decode cX4_init 44 = .ok (.putfield 32, 3) := by decide +kernel
theorem dX4_init_47 : decode cX4_init 47 = .ok (.aload_n 0, 1) := by decide +kernel
theorem dX4_init_48 : decode cX4_init 48 = .ok (.iload_n 2, 1) := by decide +kernel
theorem dX4_init_49 : decode cX4_init 49 = .ok (.putfield 35, 3) := by decide +kernel
theorem dX4_init_52 : decode cX4_init 52 = .ok (.aload_n 0, 1) := by decide +kernel
theorem dX4_init_53 : decode cX4_init 53 = .ok (.aload_n 3, 1) := by decide +kernel
theorem dX4_init_54 : decode cX4_init 54 = .ok (.putfield 38, 3) := by decide +kernel
theorem dX4_init_57 : decode cX4_init 57 = .ok (.aload_n 0, 1) := by decide +kernel
theorem dX4_init_58 : decode cX4_init 58 = .ok (.iload 4, 2) := by decide +kernel
theorem dX4_init_60 : decode cX4_init 60 = .ok (.putfield 42, 3) := by decide +kernel
theorem dX4_init_63 : decode cX4_init 63 = .ok (.aload_n 0, 1) := by decide +kernel
theorem dX4_init_64 : decode cX4_init 64 = .ok (.iload 5, 2) := by decide +kernel
theorem dX4_init_66 : decode cX4_init 66 = .ok (.putfield 45, 3) := by decide +kernel
theorem dX4_init_69 : decode cX4_init 69 = .ok (.aload_n 0, 1) := by decide +kernel
theorem dX4_init_70 : decode cX4_init 70 = .ok (.iload 6, 2) := by decide +kernel
theorem dX4_init_72 : decode cX4_init 72 = .ok (.putfield 48, 3) := by decide +kernel
theorem dX4_init_75 : decode cX4_init 75 = .ok (.iconst 1, 1) := by decide +kernel
theorem dX4_init_76 : decode cX4_init 76 = .ok (.istore 7, 2) := by decide +kernel
theorem dX4_init_78 : decode cX4_init 78 = .ok (.iconst 0, 1) := by decide +kernel
theorem dX4_init_79 : decode cX4_init 79 = .ok (.istore 8, 2) := by decide +kernel
theorem dX4_init_81 : decode cX4_init 81 = .ok (.iload 8, 2) := by decide +kernel
theorem dX4_init_83 : decode cX4_init 83 = .ok (.aload_n 3, 1) := by decide +kernel
theorem dX4_init_84 : decode cX4_init 84 = .ok (.arraylength, 1) := by decide +kernel
theorem dX4_init_85 : decode cX4_init 85 = .ok (.if_icmp .ge 21, 3) := by decide +kernel
theorem dX4_init_88 : decode cX4_init 88 = .ok (.iload 7, 2) := by decide +kernel
theorem dX4_init_90 : decode cX4_init 90 = .ok (.aload_n 3, 1) := by decide +kernel
theorem dX4_init_91 : decode cX4_init 91 = .ok (.iload 8, 2) := by decide +kernel
theorem dX4_init_93 : decode cX4_init 93 = .ok (.aaload, 1) := by decide +kernel
theorem dX4_init_94 : decode cX4_init 94 = .ok (.getfield 52, 3) := by decide +kernel
theorem dX4_init_97 : decode cX4_init 97 = .ok (.iadd, 1) := by decide +kernel
theorem dX4_init_98 : decode cX4_init 98 = .ok (.istore 7, 2) := by decide +kernel
theorem dX4_init_100 : decode cX4_init 100 = .ok (.iinc 8 1, 3) := by decide +kernel
theorem dX4_init_103 : decode cX4_init 103 = .ok (.goto (-22), 3) := by decide +kernel
theorem dX4_init_106 : decode cX4_init 106 = .ok (.aload_n 0, 1) := by decide +kernel
theorem dX4_init_107 : decode cX4_init 107 = .ok (.iload 7, 2) := by decide +kernel
theorem dX4_init_109 : decode cX4_init 109 = .ok (.putfield 52, 3) := by decide +kernel
theorem dX4_init_112 : decode cX4_init 112 = .ok (.return_, 1) := by decide +kernel
theorem dX4_isByItself_0 : decode cX4_isByItself 0 = .ok (.aload_n 0, 1) := by decide +kernel
theorem dX4_isByItself_1 : decode cX4_isByItself 1 = .ok (.getfield 48, 3) := by decide +kernel
theorem dX4_isByItself_4 : decode cX4_isByItself 4 = .ok (.ifCond .ne 11, 3) := by decide +kernel
theorem dX4_isByItself_7 : decode cX4_isByItself 7 = .ok (.aload_n 0, 1) := by decide +kernel
theorem dX4_isByItself_8 : decode cX4_isByItself 8 = .ok (.getfield 35, 3) := by decide +kernel
theorem dX4_isByItself_11 : decode cX4_isByItself 11 = .ok (.iconst 3, 1) := by decide +kernel
theorem dX4_isByItself_12 : decode cX4_isByItself 12 = .ok (.if_icmp .ne 7, 3) := by decide +kernel
theorem dX4_isByItself_15 : decode cX4_isByItself 15 = .ok (.iconst 1, 1) := by decide +kernel
theorem dX4_isByItself_16 : decode cX4_isByItself 16 = .ok (.goto 4, 3) := by decide +kernel
theorem dX4_isByItself_19 : decode cX4_isByItself 19 = .ok (.iconst 0, 1) := by decide +kernel
theorem dX4_isByItself_20 : decode cX4_isByItself 20 = .ok (.ireturn, 1) := by decide +kernel
theorem dX5_init_0 : decode cX5_init 0 = .ok (.aload_n 0, 1) := by decide +kernel
theorem dX5_init_1 : decode cX5_init 1 = .ok (.invokespecial 3, 3) := by decide +kernel
theorem dX5_init_4 : decode cX5_init 4 = .ok (.aload_n 0, 1) := by decide +kernel
theorem dX5_init_5 : decode cX5_init 5 = .ok (.bipush 60, 2) := by decide +kernel
theorem dX5_init_7 : decode cX5_init 7 = .ok (.bipush 12, 2) := by decide +kernel
theorem dX5_init_9 : decode cX5_init 9 = .ok (.multianewarray 9 2, 4) := by decide +kernel
theorem dX5_init_13 : decode cX5_init 13 = .ok (.putfield 11, 3) := by decide +kernel
theorem dX5_init_16 : decode cX5_init 16 = .ok (.aload_n 0, 1) := by decide +kernel
