theorem dX12_beginsCell_17 : decode cX12_beginsCell 17 = .ok (.invokevirtual 515, 3) := by decide +kernel
theorem dX12_beginsCell_20 : decode cX12_beginsCell 20 = .ok (.iconst 0, 1) := by decide +kernel
theorem dX12_beginsCell_21 : decode cX12_beginsCell 21 = .ok (.iload_n 1, 1) := by decide +kernel
theorem dX12_beginsCell_22 : decode cX12_beginsCell 22 = .ok (.invokevirtual 536, 3) := by decide +kernel
theorem dX12_beginsCell_25 : decode cX12_beginsCell 25 = .ok (.return_, 1) := by decide +kernel
theorem dX12_fails_0 : decode cX12_fails 0 = .ok (.aload_n 0, 1) := by decide +kernel
theorem dX12_fails_1 : decode cX12_fails 1 = .ok (.getfield 530, 3) := by decide +kernel
theorem dX12_fails_4 : decode cX12_fails 4 = .ok (.ifCond .le 44, 3) := by decide +kernel
theorem dX12_fails_7 : decode cX12_fails 7 = .ok (.aload_n 0, 1) := by decide +kernel
theorem dX12_fails_8 : decode cX12_fails 8 = .ok (.dup, 1) := by decide +kernel
theorem dX12_fails_9 : decode cX12_fails 9 = .ok (.getfield 530, 3) := by decide +kernel
theorem dX12_fails_12 : decode cX12_fails 12 = .ok (.iconst 1, 1) := by decide +kernel
theorem dX12_fails_13 : decode cX12_fails 13 = .ok (.isub, 1) := by decide +kernel
theorem dX12_fails_14 : decode cX12_fails 14 = .ok (.putfield 530, 3) := by decide +kernel
theorem dX12_fails_17 : decode cX12_fails 17 = .ok (.aload_n 0, 1) := by decide +kernel
theorem dX12_fails_18 : decode cX12_fails 18 = .ok (.getfield 221, 3) := by decide +kernel
theorem dX12_fails_21 : decode cX12_fails 21 = .ok (.aload_n 0, 1) := by decide +kernel
theorem dX12_fails_22 : decode cX12_fails 22 = .ok (.getfield 530, 3) := by decide +kernel
theorem dX12_fails_25 : decode cX12_fails 25 = .ok (.iaload, 1) := by decide +kernel
theorem dX12_fails_26 : decode cX12_fails 26 = .ok (.iconst 2, 1) := by decide +kernel
theorem dX12_fails_27 : decode cX12_fails 27 = .ok (.if_icmp .ne (-27), 3) := by decide +kernel
theorem dX12_fails_30 : decode cX12_fails 30 = .ok (.aload_n 0, 1) := by decide +kernel
theorem dX12_fails_31 : decode cX12_fails 31 = .ok (.getfield 196, 3) := by decide +kernel
theorem dX12_fails_34 : decode cX12_fails 34 = .ok (.aload_n 0, 1) := by decide +kernel
theorem dX12_fails_35 : decode cX12_fails 35 = .ok (.getfield 218, 3) := by decide +kernel
theorem dX12_fails_38 : decode cX12_fails 38 = .ok (.aload_n 0, 1) := by decide +kernel
theorem dX12_fails_39 : decode cX12_fails 39 = .ok (.getfield 530, 3) := by decide +kernel
theorem dX12_fails_42 : decode cX12_fails 42 = .ok (.iaload, 1) := by decide +kernel
theorem dX12_fails_43 : decode cX12_fails 43 = .ok (.iconst 3, 1) := by decide +kernel
theorem dX12_fails_44 : decode cX12_fails 44 = .ok (.iastore, 1) := by decide +kernel
theorem dX12_fails_45 : decode cX12_fails 45 = .ok (.goto (-45), 3) := by decide +kernel
theorem dX12_fails_48 : decode cX12_fails 48 = .ok (.return_, 1) := by decide +kernel
theorem dX12_beginsPart_0 : decode cX12_beginsPart 0 = .ok (.aload_n 0, 1) := by decide +kernel
theorem dX12_beginsPart_1 : decode cX12_beginsPart 1 = .ok (.getfield 25, 3) := by decide +kernel
theorem dX12_beginsPart_4 : decode cX12_beginsPart 4 = .ok (.iload_n 1, 1) := by decide +kernel
theorem dX12_beginsPart_5 : decode cX12_beginsPart 5 = .ok (.iaload, 1) := by decide +kernel
theorem dX12_beginsPart_6 : decode cX12_beginsPart 6 = .ok (.istore_n 3, 1) := by decide +kernel
theorem dX12_beginsPart_7 : decode cX12_beginsPart 7 = .ok (.iload_n 3, 1) := by decide +kernel
theorem dX12_beginsPart_8 : decode cX12_beginsPart 8 = .ok (.ifCond .ne 22, 3) := by decide +kernel
theorem dX12_beginsPart_11 : decode cX12_beginsPart 11 = .ok (.aload_n 0, 1) := by decide +kernel
theorem dX12_beginsPart_12 : decode cX12_beginsPart 12 = .ok (.aload_n 0, 1) := by decide +kernel
theorem dX12_beginsPart_13 : decode cX12_beginsPart 13 = .ok (.iconst (-1), 1) := by decide +kernel
theorem dX12_beginsPart_14 : decode cX12_beginsPart 14 = .ok (.iconst (-1), 1) := by decide +kernel
theorem dX12_beginsPart_15 : decode cX12_beginsPart 15 = .ok (.aload_n 0, 1) := by decide +kernel
theorem dX12_beginsPart_16 : decode cX12_beginsPart 16 = .ok (.getfield 28, 3) := by decide +kernel
theorem dX12_beginsPart_19 : decode cX12_beginsPart 19 = .ok (.iload_n 1, 1) := by decide +kernel
theorem dX12_beginsPart_20 : decode cX12_beginsPart 20 = .ok (.iaload, 1) := by decide +kernel
theorem dX12_beginsPart_21 : decode cX12_beginsPart 21 = .ok (.invokevirtual 540, 3) := by decide +kernel
theorem dX12_beginsPart_24 : decode cX12_beginsPart 24 = .ok (.invokevirtual 543, 3) := by decide +kernel
theorem dX12_beginsPart_27 : decode cX12_beginsPart 27 = .ok (.goto 113, 3) := by decide +kernel
theorem dX12_beginsPart_30 : decode cX12_beginsPart 30 = .ok (.iload_n 3, 1) := by decide +kernel
theorem dX12_beginsPart_31 : decode cX12_beginsPart 31 = .ok (.iconst 1, 1) := by decide +kernel
theorem dX12_beginsPart_32 : decode cX12_beginsPart 32 = .ok (.if_icmp .ne 67, 3) := by decide +kernel
theorem dX12_beginsPart_35 : decode cX12_beginsPart 35 = .ok (.aload_n 0, 1) := by decide +kernel
theorem dX12_beginsPart_36 : decode cX12_beginsPart 36 = .ok (.iload_n 2, 1) := by decide +kernel
theorem dX12_beginsPart_37 : decode cX12_beginsPart 37 = .ok (.aload_n 0, 1) := by decide +kernel
theorem dX12_beginsPart_38 : decode cX12_beginsPart 38 = .ok (.getfield 28, 3) := by decide +kernel
theorem dX12_beginsPart_41 : decode cX12_beginsPart 41 = .ok (.iload_n 1, 1) := by decide +kernel
theorem dX12_beginsPart_42 : decode cX12_beginsPart 42 = .ok (.iaload, 1) := by decide +kernel
theorem dX12_beginsPart_43 : decode cX12_beginsPart 43 = .ok (.invokevirtual 518, 3) := by decide +kernel
theorem dX12_beginsPart_46 : decode cX12_beginsPart 46 = .ok (.istore 4, 2) := by decide +kernel
theorem dX12_beginsPart_48 : decode cX12_beginsPart 48 = .ok (.aload_n 0, 1) := by decide +kernel
theorem dX12_beginsPart_49 : decode cX12_beginsPart 49 = .ok (.getfield 196, 3) := by decide +kernel
theorem dX12_beginsPart_52 : decode cX12_beginsPart 52 = .ok (.iload 4, 2) := by decide +kernel
theorem dX12_beginsPart_54 : decode cX12_beginsPart 54 = .ok (.iaload, 1) := by decide +kernel
theorem dX12_beginsPart_55 : decode cX12_beginsPart 55 = .ok (.iconst 2, 1) := by decide +kernel
theorem dX12_beginsPart_56 : decode cX12_beginsPart 56 = .ok (.if_icmp .ne 17, 3) := by decide +kernel
theorem dX12_beginsPart_59 : decode cX12_beginsPart 59 = .ok (.aload_n 0, 1) := by decide +kernel
theorem dX12_beginsPart_60 : decode cX12_beginsPart 60 = .ok (.aload_n 0, 1) := by decide +kernel
theorem dX12_beginsPart_61 : decode cX12_beginsPart 61 = .ok (.getfield 199, 3) := by decide +kernel
theorem dX12_beginsPart_64 : decode cX12_beginsPart 64 = .ok (.iload 4, 2) := by decide +kernel
theorem dX12_beginsPart_66 : decode cX12_beginsPart 66 = .ok (.iaload, 1) := by decide +kernel
theorem dX12_beginsPart_67 : decode cX12_beginsPart 67 = .ok (.invokevirtual 543, 3) := by decide +kernel
theorem dX12_beginsPart_70 : decode cX12_beginsPart 70 = .ok (.goto 26, 3) := by decide +kernel
theorem dX12_beginsPart_73 : decode cX12_beginsPart 73 = .ok (.aload_n 0, 1) := by decide +kernel
theorem dX12_beginsPart_74 : decode cX12_beginsPart 74 = .ok (.getfield 196, 3) := by decide +kernel
theorem dX12_beginsPart_77 : decode cX12_beginsPart 77 = .ok (.iload 4, 2) := by decide +kernel
theorem dX12_beginsPart_79 : decode cX12_beginsPart 79 = .ok (.iaload, 1) := by decide +kernel
theorem dX12_beginsPart_80 : decode cX12_beginsPart 80 = .ok (.ifCond .ne 12, 3) := by decide +kernel
theorem dX12_beginsPart_83 : decode cX12_beginsPart 83 = .ok (.aload_n 0, 1) := by decide +kernel
theorem dX12_beginsPart_84 : decode cX12_beginsPart 84 = .ok (.iload 4, 2) := by decide +kernel
theorem dX12_beginsPart_86 : decode cX12_beginsPart 86 = .ok (.invokevirtual 546, 3) := by decide +kernel
theorem dX12_beginsPart_89 : decode cX12_beginsPart 89 = .ok (.goto 7, 3) := by decide +kernel
theorem dX12_beginsPart_92 : decode cX12_beginsPart 92 = .ok (.aload_n 0, 1) := by decide +kernel
theorem dX12_beginsPart_93 : decode cX12_beginsPart 93 = .ok (.invokevirtual 549, 3) := by decide +kernel
theorem dX12_beginsPart_96 : decode cX12_beginsPart 96 = .ok (.goto 44, 3) := by decide +kernel
theorem dX12_beginsPart_99 : decode cX12_beginsPart 99 = .ok (.aload_n 0, 1) := by decide +kernel
theorem dX12_beginsPart_100 : decode cX12_beginsPart 100 = .ok (.iload_n 1, 1) := by decide +kernel
theorem dX12_beginsPart_101 : decode cX12_beginsPart 101 = .ok (.iconst 1, 1) := by decide +kernel
theorem dX12_beginsPart_102 : decode cX12_beginsPart 102 = .ok (.iload_n 2, 1) := by decide +kernel
theorem dX12_beginsPart_103 : decode cX12_beginsPart 103 = .ok (.invokevirtual 536, 3) := by decide +kernel
theorem dX12_beginsPart_106 : decode cX12_beginsPart 106 = .ok (.iload_n 3, 1) := by decide +kernel
theorem dX12_beginsPart_107 : decode cX12_beginsPart 107 = .ok (.iconst 2, 1) := by decide +kernel
theorem dX12_beginsPart_108 : decode cX12_beginsPart 108 = .ok (.if_icmp .eq 8, 3) := by decide +kernel
theorem dX12_beginsPart_111 : decode cX12_beginsPart 111 = .ok (.iload_n 3, 1) := by decide +kernel
theorem dX12_beginsPart_112 : decode cX12_beginsPart 112 = .ok (.iconst 3, 1) := by decide +kernel
theorem dX12_beginsPart_113 : decode cX12_beginsPart 113 = .ok (.if_icmp .ne 15, 3) := by decide +kernel
theorem dX12_beginsPart_116 : decode cX12_beginsPart 116 = .ok (.aload_n 0, 1) := by decide +kernel
theorem dX12_beginsPart_117 : decode cX12_beginsPart 117 = .ok (.aload_n 0, 1) := by decide +kernel
theorem dX12_beginsPart_118 : decode cX12_beginsPart 118 = .ok (.getfield 31, 3) := by decide +kernel
theorem dX12_beginsPart_121 : decode cX12_beginsPart 121 = .ok (.iload_n 1, 1) := by decide +kernel
theorem dX12_beginsPart_122 : decode cX12_beginsPart 122 = .ok (.iaload, 1) := by decide +kernel
theorem dX12_beginsPart_123 : decode cX12_beginsPart 123 = .ok (.iconst 0, 1) := by decide +kernel
theorem dX12_beginsPart_124 : decode cX12_beginsPart 124 = .ok (.iload_n 2, 1) := by decide +kernel
theorem dX12_beginsPart_125 : decode cX12_beginsPart 125 = .ok (.invokevirtual 536, 3) := by decide +kernel
theorem dX12_beginsPart_128 : decode cX12_beginsPart 128 = .ok (.aload_n 0, 1) := by decide +kernel
theorem dX12_beginsPart_129 : decode cX12_beginsPart 129 = .ok (.aload_n 0, 1) := by decide +kernel
theorem dX12_beginsPart_130 : decode cX12_beginsPart 130 = .ok (.getfield 28, 3) := by decide +kernel
theorem dX12_beginsPart_133 : decode cX12_beginsPart 133 = .ok (.iload_n 1, 1) := by decide +kernel
theorem dX12_beginsPart_134 : decode cX12_beginsPart 134 = .ok (.iaload, 1) := by decide +kernel
theorem dX12_beginsPart_135 : decode cX12_beginsPart 135 = .ok (.iconst 0, 1) := by decide +kernel
theorem dX12_beginsPart_136 : decode cX12_beginsPart 136 = .ok (.iload_n 2, 1) := by decide +kernel
theorem dX12_beginsPart_137 : decode cX12_beginsPart 137 = .ok (.invokevirtual 536, 3) := by decide +kernel
theorem dX12_beginsPart_140 : decode cX12_beginsPart 140 = .ok (.return_, 1) := by decide +kernel
theorem dX12_isPair_0 : decode cX12_isPair 0 = .ok (.aload_n 0, 1) := by decide +kernel
theorem dX12_isPair_1 : decode cX12_isPair 1 = .ok (.getfield 205, 3) := by decide +kernel
theorem dX12_isPair_4 : decode cX12_isPair 4 = .ok (.iload_n 1, 1) := by decide +kernel
theorem dX12_isPair_5 : decode cX12_isPair 5 = .ok (.iaload, 1) := by decide +kernel
theorem dX12_isPair_6 : decode cX12_isPair 6 = .ok (.iconst (-1), 1) := by decide +kernel
theorem dX12_isPair_7 : decode cX12_isPair 7 = .ok (.if_icmp .eq 7, 3) := by decide +kernel
theorem dX12_isPair_10 : decode cX12_isPair 10 = .ok (.iconst 1, 1) := by decide +kernel
theorem dX12_isPair_11 : decode cX12_isPair 11 = .ok (.goto 4, 3) := by decide +kernel
theorem dX12_isPair_14 : decode cX12_isPair 14 = .ok (.iconst 0, 1) := by decide +kernel
theorem dX12_isPair_15 : decode cX12_isPair 15 = .ok (.ireturn, 1) := by decide +kernel
theorem dX12_finishesPart_0 : decode cX12_finishesPart 0 = .ok (.aload_n 0, 1) := by decide +kernel
theorem dX12_finishesPart_1 : decode cX12_finishesPart 1 = .ok (.getfield 25, 3) := by decide +kernel
theorem dX12_finishesPart_4 : decode cX12_finishesPart 4 = .ok (.iload_n 1, 1) := by decide +kernel
theorem dX12_finishesPart_5 : decode cX12_finishesPart 5 = .ok (.iaload, 1) := by decide +kernel
theorem dX12_finishesPart_6 : decode cX12_finishesPart 6 = .ok (.istore_n 3, 1) := by decide +kernel
theorem dX12_finishesPart_7 : decode cX12_finishesPart 7 = .ok (.iload_n 3, 1) := by decide +kernel
theorem dX12_finishesPart_8 : decode cX12_finishesPart 8 = .ok (.bipush 6, 2) := by decide +kernel
theorem dX12_finishesPart_10 : decode cX12_finishesPart 10 = .ok (.if_icmp .ne 77, 3) := by decide +kernel
theorem dX12_finishesPart_13 : decode cX12_finishesPart 13 = .ok (.aload_n 0, 1) := by decide +kernel
theorem dX12_finishesPart_14 : decode cX12_finishesPart 14 = .ok (.dup, 1) := by decide +kernel
theorem dX12_finishesPart_15 : decode cX12_finishesPart 15 = .ok (.getfield 533, 3) := by decide +kernel
theorem dX12_finishesPart_18 : decode cX12_finishesPart 18 = .ok (.iconst 1, 1) := by decide +kernel
theorem dX12_finishesPart_19 : decode cX12_finishesPart 19 = .ok (.isub, 1) := by decide +kernel
theorem dX12_finishesPart_20 : decode cX12_finishesPart 20 = .ok (.putfield 533, 3) := by decide +kernel
theorem dX12_finishesPart_23 : decode cX12_finishesPart 23 = .ok (.aload_n 0, 1) := by decide +kernel
theorem dX12_finishesPart_24 : decode cX12_finishesPart 24 = .ok (.aload_n 0, 1) := by decide +kernel
theorem dX12_finishesPart_25 : decode cX12_finishesPart 25 = .ok (.getfield 227, 3) := by decide +kernel
theorem dX12_finishesPart_28 : decode cX12_finishesPart 28 = .ok (.aload_n 0, 1) := by decide +kernel
theorem dX12_finishesPart_29 : decode cX12_finishesPart 29 = .ok (.getfield 533, 3) := by decide +kernel
theorem dX12_finishesPart_32 : decode cX12_finishesPart 32 = .ok (.iaload, 1) := by decide +kernel
theorem dX12_finishesPart_33 : decode cX12_finishesPart 33 = .ok (.invokevirtual 552, 3) := by decide +kernel
theorem dX12_finishesPart_36 : decode cX12_finishesPart 36 = .ok (.ifCond .eq 10, 3) := by decide +kernel
theorem dX12_finishesPart_39 : decode cX12_finishesPart 39 = .ok (.aload_n 0, 1) := by decide +kernel
theorem dX12_finishesPart_40 : decode cX12_finishesPart 40 = .ok (.invokevirtual 549, 3) := by decide +kernel
theorem dX12_finishesPart_43 : decode cX12_finishesPart 43 = .ok (.goto 225, 3) := by decide +kernel
theorem dX12_finishesPart_46 : decode cX12_finishesPart 46 = .ok (.aload_n 0, 1) := by decide +kernel
theorem dX12_finishesPart_47 : decode cX12_finishesPart 47 = .ok (.aload_n 0, 1) := by decide +kernel
theorem dX12_finishesPart_48 : decode cX12_finishesPart 48 = .ok (.getfield 211, 3) := by decide +kernel
theorem dX12_finishesPart_51 : decode cX12_finishesPart 51 = .ok (.aload_n 0, 1) := by decide +kernel
theorem dX12_finishesPart_52 : decode cX12_finishesPart 52 = .ok (.getfield 227, 3) := by decide +kernel
theorem dX12_finishesPart_55 : decode cX12_finishesPart 55 = .ok (.aload_n 0, 1) := by decide +kernel
theorem dX12_finishesPart_56 : decode cX12_finishesPart 56 = .ok (.getfield 533, 3) := by decide +kernel
theorem dX12_finishesPart_59 : decode cX12_finishesPart 59 = .ok (.iaload, 1) := by decide +kernel
theorem dX12_finishesPart_60 : decode cX12_finishesPart 60 = .ok (.iaload, 1) := by decide +kernel
theorem dX12_finishesPart_61 : decode cX12_finishesPart 61 = .ok (.ifCond .eq 12, 3) := by decide +kernel
theorem dX12_finishesPart_64 : decode cX12_finishesPart 64 = .ok (.aload_n 0, 1) := by decide +kernel
theorem dX12_finishesPart_65 : decode cX12_finishesPart 65 = .ok (.getfield 31, 3) := by decide +kernel
theorem dX12_finishesPart_68 : decode cX12_finishesPart 68 = .ok (.iload_n 1, 1) := by decide +kernel
theorem dX12_finishesPart_69 : decode cX12_finishesPart 69 = .ok (.iaload, 1) := by decide +kernel
theorem dX12_finishesPart_70 : decode cX12_finishesPart 70 = .ok (.goto 9, 3) := by decide +kernel
theorem dX12_finishesPart_73 : decode cX12_finishesPart 73 = .ok (.aload_n 0, 1) := by decide +kernel
theorem dX12_finishesPart_74 : decode cX12_finishesPart 74 = .ok (.getfield 34, 3) := by decide +kernel
theorem dX12_finishesPart_77 : decode cX12_finishesPart 77 = .ok (.iload_n 1, 1) := by decide +kernel
theorem dX12_finishesPart_78 : decode cX12_finishesPart 78 = .ok (.iaload, 1) := by decide +kernel
theorem dX12_finishesPart_79 : decode cX12_finishesPart 79 = .ok (.iconst 0, 1) := by decide +kernel
theorem dX12_finishesPart_80 : decode cX12_finishesPart 80 = .ok (.iload_n 2, 1) := by decide +kernel
theorem dX12_finishesPart_81 : decode cX12_finishesPart 81 = .ok (.invokevirtual 536, 3) := by decide +kernel
theorem dX12_finishesPart_84 : decode cX12_finishesPart 84 = .ok (.goto 184, 3) := by decide +kernel
theorem dX12_finishesPart_87 : decode cX12_finishesPart 87 = .ok (.iload_n 3, 1) := by decide +kernel
theorem dX12_finishesPart_88 : decode cX12_finishesPart 88 = .ok (.iconst 4, 1) := by decide +kernel
theorem dX12_finishesPart_89 : decode cX12_finishesPart 89 = .ok (.if_icmp .eq 8, 3) := by decide +kernel
theorem dX12_finishesPart_92 : decode cX12_finishesPart 92 = .ok (.iload_n 3, 1) := by decide +kernel
theorem dX12_finishesPart_93 : decode cX12_finishesPart 93 = .ok (.iconst 5, 1) := by decide +kernel
theorem dX12_finishesPart_94 : decode cX12_finishesPart 94 = .ok (.if_icmp .ne 68, 3) := by decide +kernel
theorem dX12_finishesPart_97 : decode cX12_finishesPart 97 = .ok (.aload_n 0, 1) := by decide +kernel
theorem dX12_finishesPart_98 : decode cX12_finishesPart 98 = .ok (.getfield 227, 3) := by decide +kernel
theorem dX12_finishesPart_101 : decode cX12_finishesPart 101 = .ok (.aload_n 0, 1) := by decide +kernel
theorem dX12_finishesPart_102 : decode cX12_finishesPart 102 = .ok (.getfield 533, 3) := by decide +kernel
theorem dX12_finishesPart_105 : decode cX12_finishesPart 105 = .ok (.iconst 1, 1) := by decide +kernel
theorem dX12_finishesPart_106 : decode cX12_finishesPart 106 = .ok (.isub, 1) := by decide +kernel
theorem dX12_finishesPart_107 : decode cX12_finishesPart 107 = .ok (.iaload, 1) := by decide +kernel
theorem dX12_finishesPart_108 : decode cX12_finishesPart 108 = .ok (.istore 4, 2) := by decide +kernel
theorem dX12_finishesPart_110 : decode cX12_finishesPart 110 = .ok (.aload_n 0, 1) := by decide +kernel
theorem dX12_finishesPart_111 : decode cX12_finishesPart 111 = .ok (.iload 4, 2) := by decide +kernel
theorem dX12_finishesPart_113 : decode cX12_finishesPart 113 = .ok (.invokevirtual 552, 3) := by decide +kernel
theorem dX12_finishesPart_116 : decode cX12_finishesPart 116 = .ok (.ifCond .eq 39, 3) := by decide +kernel
theorem dX12_finishesPart_119 : decode cX12_finishesPart 119 = .ok (.aload_n 0, 1) := by decide +kernel
theorem dX12_finishesPart_120 : decode cX12_finishesPart 120 = .ok (.getfield 227, 3) := by decide +kernel
theorem dX12_finishesPart_123 : decode cX12_finishesPart 123 = .ok (.aload_n 0, 1) := by decide +kernel
theorem dX12_finishesPart_124 : decode cX12_finishesPart 124 = .ok (.getfield 533, 3) := by decide +kernel
theorem dX12_finishesPart_127 : decode cX12_finishesPart 127 = .ok (.iconst 1, 1) := by decide +kernel
theorem dX12_finishesPart_128 : decode cX12_finishesPart 128 = .ok (.isub, 1) := by decide +kernel
theorem dX12_finishesPart_129 : decode cX12_finishesPart 129 = .ok (.iload_n 3, 1) := by decide +kernel
theorem dX12_finishesPart_130 : decode cX12_finishesPart 130 = .ok (.iconst 4, 1) := by decide +kernel
theorem dX12_finishesPart_131 : decode cX12_finishesPart 131 = .ok (.if_icmp .ne 13, 3) := by decide +kernel
theorem dX12_finishesPart_134 : decode cX12_finishesPart 134 = .ok (.aload_n 0, 1) := by decide +kernel
theorem dX12_finishesPart_135 : decode cX12_finishesPart 135 = .ok (.getfield 205, 3) := by decide +kernel
theorem dX12_finishesPart_138 : decode cX12_finishesPart 138 = .ok (.iload 4, 2) := by decide +kernel
theorem dX12_finishesPart_140 : decode cX12_finishesPart 140 = .ok (.iaload, 1) := by decide +kernel
theorem dX12_finishesPart_141 : decode cX12_finishesPart 141 = .ok (.goto 10, 3) := by decide +kernel
theorem dX12_finishesPart_144 : decode cX12_finishesPart 144 = .ok (.aload_n 0, 1) := by decide +kernel
theorem dX12_finishesPart_145 : decode cX12_finishesPart 145 = .ok (.getfield 208, 3) := by decide +kernel
theorem dX12_finishesPart_148 : decode cX12_finishesPart 148 = .ok (.iload 4, 2) := by decide +kernel
theorem dX12_finishesPart_150 : decode cX12_finishesPart 150 = .ok (.iaload, 1) := by decide +kernel
theorem dX12_finishesPart_151 : decode cX12_finishesPart 151 = .ok (.iastore, 1) := by decide +kernel
theorem dX12_finishesPart_152 : decode cX12_finishesPart 152 = .ok (.goto 7, 3) := by decide +kernel
theorem dX12_finishesPart_155 : decode cX12_finishesPart 155 = .ok (.aload_n 0, 1) := by decide +kernel
theorem dX12_finishesPart_156 : decode cX12_finishesPart 156 = .ok (.invokevirtual 549, 3) := by decide +kernel
theorem dX12_finishesPart_159 : decode cX12_finishesPart 159 = .ok (.goto 109, 3) := by decide +kernel
theorem dX12_finishesPart_162 : decode cX12_finishesPart 162 = .ok (.aload_n 0, 1) := by decide +kernel
theorem dX12_finishesPart_163 : decode cX12_finishesPart 163 = .ok (.dup, 1) := by decide +kernel
theorem dX12_finishesPart_164 : decode cX12_finishesPart 164 = .ok (.getfield 533, 3) := by decide +kernel
theorem dX12_finishesPart_167 : decode cX12_finishesPart 167 = .ok (.iconst 2, 1) := by decide +kernel
theorem dX12_finishesPart_168 : decode cX12_finishesPart 168 = .ok (.isub, 1) := by decide +kernel
theorem dX12_finishesPart_169 : decode cX12_finishesPart 169 = .ok (.putfield 533, 3) := by decide +kernel
theorem dX12_finishesPart_172 : decode cX12_finishesPart 172 = .ok (.aload_n 0, 1) := by decide +kernel
theorem dX12_finishesPart_173 : decode cX12_finishesPart 173 = .ok (.getfield 227, 3) := by decide +kernel
theorem dX12_finishesPart_176 : decode cX12_finishesPart 176 = .ok (.aload_n 0, 1) := by decide +kernel
theorem dX12_finishesPart_177 : decode cX12_finishesPart 177 = .ok (.getfield 533, 3) := by decide +kernel
theorem dX12_finishesPart_180 : decode cX12_finishesPart 180 = .ok (.iaload, 1) := by decide +kernel
theorem dX12_finishesPart_181 : decode cX12_finishesPart 181 = .ok (.istore 4, 2) := by decide +kernel
theorem dX12_finishesPart_183 : decode cX12_finishesPart 183 = .ok (.aload_n 0, 1) := by decide +kernel
theorem dX12_finishesPart_184 : decode cX12_finishesPart 184 = .ok (.getfield 227, 3) := by decide +kernel
theorem dX12_finishesPart_187 : decode cX12_finishesPart 187 = .ok (.aload_n 0, 1) := by decide +kernel
theorem dX12_finishesPart_188 : decode cX12_finishesPart 188 = .ok (.getfield 533, 3) := by decide +kernel
theorem dX12_finishesPart_191 : decode cX12_finishesPart 191 = .ok (.iconst 1, 1) := by decide +kernel
theorem dX12_finishesPart_192 : decode cX12_finishesPart 192 = .ok (.iadd, 1) := by decide +kernel
theorem dX12_finishesPart_193 : decode cX12_finishesPart 193 = .ok (.iaload, 1) := by decide +kernel
theorem dX12_finishesPart_194 : decode cX12_finishesPart 194 = .ok (.istore 5, 2) := by decide +kernel
theorem dX12_finishesPart_196 : decode cX12_finishesPart 196 = .ok (.iload_n 3, 1) := by decide +kernel
theorem dX12_finishesPart_197 : decode cX12_finishesPart 197 = .ok (.iconst 2, 1) := by decide +kernel
theorem dX12_finishesPart_198 : decode cX12_finishesPart 198 = .ok (.if_icmp .ne 28, 3) := by decide +kernel
theorem dX12_finishesPart_201 : decode cX12_finishesPart 201 = .ok (.aload_n 0, 1) := by decide +kernel
theorem dX12_finishesPart_202 : decode cX12_finishesPart 202 = .ok (.iload 4, 2) := by decide +kernel
theorem dX12_finishesPart_204 : decode cX12_finishesPart 204 = .ok (.invokevirtual 552, 3) := by decide +kernel
theorem dX12_finishesPart_207 : decode cX12_finishesPart 207 = .ok (.ifCond .ne 12, 3) := by decide +kernel
theorem dX12_finishesPart_210 : decode cX12_finishesPart 210 = .ok (.aload_n 0, 1) := by decide +kernel
theorem dX12_finishesPart_211 : decode cX12_finishesPart 211 = .ok (.iload 5, 2) := by decide +kernel
theorem dX12_finishesPart_213 : decode cX12_finishesPart 213 = .ok (.invokevirtual 552, 3) := by decide +kernel
theorem dX12_finishesPart_216 : decode cX12_finishesPart 216 = .ok (.ifCond .eq 10, 3) := by decide +kernel
theorem dX12_finishesPart_219 : decode cX12_finishesPart 219 = .ok (.aload_n 0, 1) := by decide +kernel
theorem dX12_finishesPart_220 : decode cX12_finishesPart 220 = .ok (.invokevirtual 549, 3) := by decide +kernel
theorem dX12_finishesPart_223 : decode cX12_finishesPart 223 = .ok (.goto 45, 3) := by decide +kernel
theorem dX12_finishesPart_226 : decode cX12_finishesPart 226 = .ok (.aload_n 0, 1) := by decide +kernel
theorem dX12_finishesPart_227 : decode cX12_finishesPart 227 = .ok (.iload_n 3, 1) := by decide +kernel
theorem dX12_finishesPart_228 : decode cX12_finishesPart 228 = .ok (.iconst 3, 1) := by decide +kernel
theorem dX12_finishesPart_229 : decode cX12_finishesPart 229 = .ok (.if_icmp .ne 15, 3) := by decide +kernel
theorem dX12_finishesPart_232 : decode cX12_finishesPart 232 = .ok (.aload_n 0, 1) := by decide +kernel
theorem dX12_finishesPart_233 : decode cX12_finishesPart 233 = .ok (.iload 4, 2) := by decide +kernel
theorem dX12_finishesPart_235 : decode cX12_finishesPart 235 = .ok (.iload 5, 2) := by decide +kernel
theorem dX12_finishesPart_237 : decode cX12_finishesPart 237 = .ok (.iconst 0, 1) := by decide +kernel
theorem dX12_finishesPart_238 : decode cX12_finishesPart 238 = .ok (.invokevirtual 540, 3) := by decide +kernel
theorem dX12_finishesPart_241 : decode cX12_finishesPart 241 = .ok (.goto 24, 3) := by decide +kernel
theorem dX12_finishesPart_244 : decode cX12_finishesPart 244 = .ok (.aload_n 0, 1) := by decide +kernel
theorem dX12_finishesPart_245 : decode cX12_finishesPart 245 = .ok (.iconst (-1), 1) := by decide +kernel
theorem dX12_finishesPart_246 : decode cX12_finishesPart 246 = .ok (.iconst (-1), 1) := by decide +kernel
theorem dX12_finishesPart_247 : decode cX12_finishesPart 247 = .ok (.aload_n 0, 1) := by decide +kernel
theorem dX12_finishesPart_248 : decode cX12_finishesPart 248 = .ok (.getfield 211, 3) := by decide +kernel
theorem dX12_finishesPart_251 : decode cX12_finishesPart 251 = .ok (.iload 4, 2) := by decide +kernel
theorem dX12_finishesPart_253 : decode cX12_finishesPart 253 = .ok (.iaload, 1) := by decide +kernel
theorem dX12_finishesPart_254 : decode cX12_finishesPart 254 = .ok (.aload_n 0, 1) := by decide +kernel
theorem dX12_finishesPart_255 : decode cX12_finishesPart 255 = .ok (.getfield 211, 3) := by decide +kernel
theorem dX12_finishesPart_258 : decode cX12_finishesPart 258 = .ok (.iload 5, 2) := by decide +kernel
theorem dX12_finishesPart_260 : decode cX12_finishesPart 260 = .ok (.iaload, 1) := by decide +kernel
theorem dX12_finishesPart_261 : decode cX12_finishesPart 261 = .ok (.iadd, 1) := by decide +kernel
theorem dX12_finishesPart_262 : decode cX12_finishesPart 262 = .ok (.invokevirtual 540, 3) := by decide +kernel
theorem dX12_finishesPart_265 : decode cX12_finishesPart 265 = .ok (.invokevirtual 543, 3) := by decide +kernel
theorem dX12_finishesPart_268 : decode cX12_finishesPart 268 = .ok (.return_, 1) := by decide +kernel
theorem dX12_finishesCell_0 : decode cX12_finishesCell 0 = .ok (.aload_n 0, 1) := by decide +kernel
theorem dX12_finishesCell_1 : decode cX12_finishesCell 1 = .ok (.dup, 1) := by decide +kernel
theorem dX12_finishesCell_2 : decode cX12_finishesCell 2 = .ok (.getfield 533, 3) := by decide +kernel
theorem dX12_finishesCell_5 : decode cX12_finishesCell 5 = .ok (.iconst 1, 1) := by decide +kernel
theorem dX12_finishesCell_6 : decode cX12_finishesCell 6 = .ok (.isub, 1) := by decide +kernel
theorem dX12_finishesCell_7 : decode cX12_finishesCell 7 = .ok (.putfield 533, 3) := by decide +kernel
theorem dX12_finishesCell_10 : decode cX12_finishesCell 10 = .ok (.aload_n 0, 1) := by decide +kernel
theorem dX12_finishesCell_11 : decode cX12_finishesCell 11 = .ok (.getfield 227, 3) := by decide +kernel
theorem dX12_finishesCell_14 : decode cX12_finishesCell 14 = .ok (.aload_n 0, 1) := by decide +kernel
theorem dX12_finishesCell_15 : decode cX12_finishesCell 15 = .ok (.getfield 533, 3) := by decide +kernel
theorem dX12_finishesCell_18 : decode cX12_finishesCell 18 = .ok (.iaload, 1) := by decide +kernel
theorem dX12_finishesCell_19 : decode cX12_finishesCell 19 = .ok (.istore_n 2, 1) := by decide +kernel
theorem dX12_finishesCell_20 : decode cX12_finishesCell 20 = .ok (.aload_n 0, 1) := by decide +kernel
theorem dX12_finishesCell_21 : decode cX12_finishesCell 21 = .ok (.getfield 196, 3) := by decide +kernel
theorem dX12_finishesCell_24 : decode cX12_finishesCell 24 = .ok (.iload_n 1, 1) := by decide +kernel
theorem dX12_finishesCell_25 : decode cX12_finishesCell 25 = .ok (.iconst 2, 1) := by decide +kernel
theorem dX12_finishesCell_26 : decode cX12_finishesCell 26 = .ok (.iastore, 1) := by decide +kernel
theorem dX12_finishesCell_27 : decode cX12_finishesCell 27 = .ok (.aload_n 0, 1) := by decide +kernel
theorem dX12_finishesCell_28 : decode cX12_finishesCell 28 = .ok (.getfield 199, 3) := by decide +kernel
theorem dX12_finishesCell_31 : decode cX12_finishesCell 31 = .ok (.iload_n 1, 1) := by decide +kernel
theorem dX12_finishesCell_32 : decode cX12_finishesCell 32 = .ok (.iload_n 2, 1) := by decide +kernel
theorem dX12_finishesCell_33 : decode cX12_finishesCell 33 = .ok (.iastore, 1) := by decide +kernel
theorem dX12_finishesCell_34 : decode cX12_finishesCell 34 = .ok (.aload_n 0, 1) := by decide +kernel
theorem dX12_finishesCell_35 : decode cX12_finishesCell 35 = .ok (.iload_n 1, 1) := by decide +kernel
theorem dX12_finishesCell_36 : decode cX12_finishesCell 36 = .ok (.iconst 2, 1) := by decide +kernel
theorem dX12_finishesCell_37 : decode cX12_finishesCell 37 = .ok (.invokevirtual 521, 3) := by decide +kernel
theorem dX12_finishesCell_40 : decode cX12_finishesCell 40 = .ok (.ifCond .eq 48, 3) := by decide +kernel
theorem dX12_finishesCell_43 : decode cX12_finishesCell 43 = .ok (.aload_n 0, 1) := by decide +kernel
theorem dX12_finishesCell_44 : decode cX12_finishesCell 44 = .ok (.getfield 230, 3) := by decide +kernel
theorem dX12_finishesCell_47 : decode cX12_finishesCell 47 = .ok (.aload_n 0, 1) := by decide +kernel
theorem dX12_finishesCell_48 : decode cX12_finishesCell 48 = .ok (.getfield 555, 3) := by decide +kernel
theorem dX12_finishesCell_51 : decode cX12_finishesCell 51 = .ok (.aload_n 0, 1) := by decide +kernel
theorem dX12_finishesCell_52 : decode cX12_finishesCell 52 = .ok (.getfield 205, 3) := by decide +kernel
theorem dX12_finishesCell_55 : decode cX12_finishesCell 55 = .ok (.iload_n 2, 1) := by decide +kernel
theorem dX12_finishesCell_56 : decode cX12_finishesCell 56 = .ok (.iaload, 1) := by decide +kernel
theorem dX12_finishesCell_57 : decode cX12_finishesCell 57 = .ok (.iconst (-1), 1) := by decide +kernel
theorem dX12_finishesCell_58 : decode cX12_finishesCell 58 = .ok (.if_icmp .ne 12, 3) := by decide +kernel
theorem dX12_finishesCell_61 : decode cX12_finishesCell 61 = .ok (.aload_n 0, 1) := by decide +kernel
theorem dX12_finishesCell_62 : decode cX12_finishesCell 62 = .ok (.getfield 211, 3) := by decide +kernel
theorem dX12_finishesCell_65 : decode cX12_finishesCell 65 = .ok (.iload_n 2, 1) := by decide +kernel
theorem dX12_finishesCell_66 : decode cX12_finishesCell 66 = .ok (.iaload, 1) := by decide +kernel
theorem dX12_finishesCell_67 : decode cX12_finishesCell 67 = .ok (.goto 10, 3) := by decide +kernel
theorem dX12_finishesCell_70 : decode cX12_finishesCell 70 = .ok (.aload_n 0, 1) := by decide +kernel
theorem dX12_finishesCell_71 : decode cX12_finishesCell 71 = .ok (.getfield 214, 3) := by decide +kernel
theorem dX12_finishesCell_74 : decode cX12_finishesCell 74 = .ok (.iload_n 2, 1) := by decide +kernel
theorem dX12_finishesCell_75 : decode cX12_finishesCell 75 = .ok (.laload, 1) := by decide +kernel
theorem dX12_finishesCell_76 : decode cX12_finishesCell 76 = .ok (.l2i, 1) := by decide +kernel
theorem dX12_finishesCell_77 : decode cX12_finishesCell 77 = .ok (.iastore, 1) := by decide +kernel
theorem dX12_finishesCell_78 : decode cX12_finishesCell 78 = .ok (.aload_n 0, 1) := by decide +kernel
theorem dX12_finishesCell_79 : decode cX12_finishesCell 79 = .ok (.dup, 1) := by decide +kernel
theorem dX12_finishesCell_80 : decode cX12_finishesCell 80 = .ok (.getfield 555, 3) := by decide +kernel
theorem dX12_finishesCell_83 : decode cX12_finishesCell 83 = .ok (.iconst 1, 1) := by decide +kernel
theorem dX12_finishesCell_84 : decode cX12_finishesCell 84 = .ok (.iadd, 1) := by decide +kernel
theorem dX12_finishesCell_85 : decode cX12_finishesCell 85 = .ok (.putfield 555, 3) := by decide +kernel
theorem dX12_finishesCell_88 : decode cX12_finishesCell 88 = .ok (.aload_n 0, 1) := by decide +kernel
theorem dX12_finishesCell_89 : decode cX12_finishesCell 89 = .ok (.getfield 530, 3) := by decide +kernel
theorem dX12_finishesCell_92 : decode cX12_finishesCell 92 = .ok (.ifCond .le 8, 3) := by decide +kernel
theorem dX12_finishesCell_95 : decode cX12_finishesCell 95 = .ok (.aload_n 0, 1) := by decide +kernel
theorem dX12_finishesCell_96 : decode cX12_finishesCell 96 = .ok (.iload_n 2, 1) := by decide +kernel
theorem dX12_finishesCell_97 : decode cX12_finishesCell 97 = .ok (.invokevirtual 543, 3) := by decide +kernel
theorem dX12_finishesCell_100 : decode cX12_finishesCell 100 = .ok (.return_, 1) := by decide +kernel
theorem dX12_finds_0 : decode cX12_finds 0 = .ok (.aload_n 0, 1) := by decide +kernel
theorem dX12_finds_1 : decode cX12_finds 1 = .ok (.iconst 0, 1) := by decide +kernel
theorem dX12_finds_2 : decode cX12_finds 2 = .ok (.putfield 530, 3) := by decide +kernel
theorem dX12_finds_5 : decode cX12_finds 5 = .ok (.aload_n 0, 1) := by decide +kernel
theorem dX12_finds_6 : decode cX12_finds 6 = .ok (.iconst 0, 1) := by decide +kernel
theorem dX12_finds_7 : decode cX12_finds 7 = .ok (.putfield 533, 3) := by decide +kernel
theorem dX12_finds_10 : decode cX12_finds 10 = .ok (.aload_n 0, 1) := by decide +kernel
theorem dX12_finds_11 : decode cX12_finds 11 = .ok (.iload_n 1, 1) := by decide +kernel
theorem dX12_finds_12 : decode cX12_finds 12 = .ok (.invokevirtual 546, 3) := by decide +kernel
theorem dX12_finds_15 : decode cX12_finds 15 = .ok (.aload_n 0, 1) := by decide +kernel
theorem dX12_finds_16 : decode cX12_finds 16 = .ok (.getfield 530, 3) := by decide +kernel
theorem dX12_finds_19 : decode cX12_finds 19 = .ok (.ifCond .le 90, 3) := by decide +kernel
theorem dX12_finds_22 : decode cX12_finds 22 = .ok (.aload_n 0, 1) := by decide +kernel
theorem dX12_finds_23 : decode cX12_finds 23 = .ok (.dup, 1) := by decide +kernel
theorem dX12_finds_24 : decode cX12_finds 24 = .ok (.getfield 530, 3) := by decide +kernel
theorem dX12_finds_27 : decode cX12_finds 27 = .ok (.iconst 1, 1) := by decide +kernel
theorem dX12_finds_28 : decode cX12_finds 28 = .ok (.isub, 1) := by decide +kernel
theorem dX12_finds_29 : decode cX12_finds 29 = .ok (.putfield 530, 3) := by decide +kernel
theorem dX12_finds_32 : decode cX12_finds 32 = .ok (.aload_n 0, 1) := by decide +kernel
theorem dX12_finds_33 : decode cX12_finds 33 = .ok (.getfield 218, 3) := by decide +kernel
theorem dX12_finds_36 : decode cX12_finds 36 = .ok (.aload_n 0, 1) := by decide +kernel
theorem dX12_finds_37 : decode cX12_finds 37 = .ok (.getfield 530, 3) := by decide +kernel
theorem dX12_finds_40 : decode cX12_finds 40 = .ok (.iaload, 1) := by decide +kernel
theorem dX12_finds_41 : decode cX12_finds 41 = .ok (.istore_n 2, 1) := by decide +kernel
theorem dX12_finds_42 : decode cX12_finds 42 = .ok (.aload_n 0, 1) := by decide +kernel
theorem dX12_finds_43 : decode cX12_finds 43 = .ok (.getfield 221, 3) := by decide +kernel
theorem dX12_finds_46 : decode cX12_finds 46 = .ok (.aload_n 0, 1) := by decide +kernel
theorem dX12_finds_47 : decode cX12_finds 47 = .ok (.getfield 530, 3) := by decide +kernel
theorem dX12_finds_50 : decode cX12_finds 50 = .ok (.iaload, 1) := by decide +kernel
theorem dX12_finds_51 : decode cX12_finds 51 = .ok (.iconst 2, 1) := by decide +kernel
theorem dX12_finds_52 : decode cX12_finds 52 = .ok (.if_icmp .ne 11, 3) := by decide +kernel
theorem dX12_finds_55 : decode cX12_finds 55 = .ok (.aload_n 0, 1) := by decide +kernel
theorem dX12_finds_56 : decode cX12_finds 56 = .ok (.iload_n 2, 1) := by decide +kernel
theorem dX12_finds_57 : decode cX12_finds 57 = .ok (.invokevirtual 558, 3) := by decide +kernel
theorem dX12_finds_60 : decode cX12_finds 60 = .ok (.goto 46, 3) := by decide +kernel
theorem dX12_finds_63 : decode cX12_finds 63 = .ok (.aload_n 0, 1) := by decide +kernel
theorem dX12_finds_64 : decode cX12_finds 64 = .ok (.getfield 221, 3) := by decide +kernel
theorem dX12_finds_67 : decode cX12_finds 67 = .ok (.aload_n 0, 1) := by decide +kernel
theorem dX12_finds_68 : decode cX12_finds 68 = .ok (.getfield 530, 3) := by decide +kernel
theorem dX12_finds_71 : decode cX12_finds 71 = .ok (.iaload, 1) := by decide +kernel
theorem dX12_finds_72 : decode cX12_finds 72 = .ok (.ifCond .ne 20, 3) := by decide +kernel
theorem dX12_finds_75 : decode cX12_finds 75 = .ok (.aload_n 0, 1) := by decide +kernel
theorem dX12_finds_76 : decode cX12_finds 76 = .ok (.iload_n 2, 1) := by decide +kernel
theorem dX12_finds_77 : decode cX12_finds 77 = .ok (.aload_n 0, 1) := by decide +kernel
theorem dX12_finds_78 : decode cX12_finds 78 = .ok (.getfield 224, 3) := by decide +kernel
theorem dX12_finds_81 : decode cX12_finds 81 = .ok (.aload_n 0, 1) := by decide +kernel
theorem dX12_finds_82 : decode cX12_finds 82 = .ok (.getfield 530, 3) := by decide +kernel
theorem dX12_finds_85 : decode cX12_finds 85 = .ok (.iaload, 1) := by decide +kernel
theorem dX12_finds_86 : decode cX12_finds 86 = .ok (.invokevirtual 561, 3) := by decide +kernel
theorem dX12_finds_89 : decode cX12_finds 89 = .ok (.goto 17, 3) := by decide +kernel
theorem dX12_finds_92 : decode cX12_finds 92 = .ok (.aload_n 0, 1) := by decide +kernel
theorem dX12_finds_93 : decode cX12_finds 93 = .ok (.iload_n 2, 1) := by decide +kernel
theorem dX12_finds_94 : decode cX12_finds 94 = .ok (.aload_n 0, 1) := by decide +kernel
theorem dX12_finds_95 : decode cX12_finds 95 = .ok (.getfield 224, 3) := by decide +kernel
theorem dX12_finds_98 : decode cX12_finds 98 = .ok (.aload_n 0, 1) := by decide +kernel
theorem dX12_finds_99 : decode cX12_finds 99 = .ok (.getfield 530, 3) := by decide +kernel
theorem dX12_finds_102 : decode cX12_finds 102 = .ok (.iaload, 1) := by decide +kernel
theorem dX12_finds_103 : decode cX12_finds 103 = .ok (.invokevirtual 564, 3) := by decide +kernel
theorem dX12_finds_106 : decode cX12_finds 106 = .ok (.goto (-91), 3) := by decide +kernel
theorem dX12_finds_109 : decode cX12_finds 109 = .ok (.return_, 1) := by decide +kernel
theorem dX12_runsOnce_0 : decode cX12_runsOnce 0 = .ok (.aload_n 0, 1) := by decide +kernel
theorem dX12_runsOnce_1 : decode cX12_runsOnce 1 = .ok (.iload_n 1, 1) := by decide +kernel
theorem dX12_runsOnce_2 : decode cX12_runsOnce 2 = .ok (.invokevirtual 567, 3) := by decide +kernel
theorem dX12_runsOnce_5 : decode cX12_runsOnce 5 = .ok (.istore_n 2, 1) := by decide +kernel
theorem dX12_runsOnce_6 : decode cX12_runsOnce 6 = .ok (.iload_n 2, 1) := by decide +kernel
theorem dX12_runsOnce_7 : decode cX12_runsOnce 7 = .ok (.ifCond .eq 5, 3) := by decide +kernel
theorem dX12_runsOnce_10 : decode cX12_runsOnce 10 = .ok (.iload_n 2, 1) := by decide +kernel
theorem dX12_runsOnce_11 : decode cX12_runsOnce 11 = .ok (.ireturn, 1) := by decide +kernel
theorem dX12_runsOnce_12 : decode cX12_runsOnce 12 = .ok (.aload_n 0, 1) := by decide +kernel
theorem dX12_runsOnce_13 : decode cX12_runsOnce 13 = .ok (.invokevirtual 570, 3) := by decide +kernel
theorem dX12_runsOnce_16 : decode cX12_runsOnce 16 = .ok (.ifCond .ne 6, 3) := by decide +kernel
theorem dX12_runsOnce_19 : decode cX12_runsOnce 19 = .ok (.bipush 8, 2) := by decide +kernel
theorem dX12_runsOnce_21 : decode cX12_runsOnce 21 = .ok (.ireturn, 1) := by decide +kernel
theorem dX12_runsOnce_22 : decode cX12_runsOnce 22 = .ok (.aload_n 0, 1) := by decide +kernel
theorem dX12_runsOnce_23 : decode cX12_runsOnce 23 = .ok (.invokevirtual 574, 3) := by decide +kernel
theorem dX12_runsOnce_26 : decode cX12_runsOnce 26 = .ok (.ifCond .eq 6, 3) := by decide +kernel
theorem dX12_runsOnce_29 : decode cX12_runsOnce 29 = .ok (.bipush 9, 2) := by decide +kernel
theorem dX12_runsOnce_31 : decode cX12_runsOnce 31 = .ok (.ireturn, 1) := by decide +kernel
theorem dX12_runsOnce_32 : decode cX12_runsOnce 32 = .ok (.aload_n 0, 1) := by decide +kernel
theorem dX12_runsOnce_33 : decode cX12_runsOnce 33 = .ok (.iload_n 1, 1) := by decide +kernel
theorem dX12_runsOnce_34 : decode cX12_runsOnce 34 = .ok (.invokevirtual 577, 3) := by decide +kernel
theorem dX12_runsOnce_37 : decode cX12_runsOnce 37 = .ok (.aload_n 0, 1) := by decide +kernel
theorem dX12_runsOnce_38 : decode cX12_runsOnce 38 = .ok (.iconst 0, 1) := by decide +kernel
theorem dX12_runsOnce_39 : decode cX12_runsOnce 39 = .ok (.putfield 527, 3) := by decide +kernel
theorem dX12_runsOnce_42 : decode cX12_runsOnce 42 = .ok (.aload_n 0, 1) := by decide +kernel
theorem dX12_runsOnce_43 : decode cX12_runsOnce 43 = .ok (.iconst 0, 1) := by decide +kernel
theorem dX12_runsOnce_44 : decode cX12_runsOnce 44 = .ok (.putfield 555, 3) := by decide +kernel
theorem dX12_runsOnce_47 : decode cX12_runsOnce 47 = .ok (.iconst 0, 1) := by decide +kernel
theorem dX12_runsOnce_48 : decode cX12_runsOnce 48 = .ok (.istore_n 3, 1) := by decide +kernel
theorem dX12_runsOnce_49 : decode cX12_runsOnce 49 = .ok (.iload_n 3, 1) := by decide +kernel
theorem dX12_runsOnce_50 : decode cX12_runsOnce 50 = .ok (.aload_n 0, 1) := by decide +kernel
theorem dX12_runsOnce_51 : decode cX12_runsOnce 51 = .ok (.getfield 494, 3) := by decide +kernel
theorem dX12_runsOnce_54 : decode cX12_runsOnce 54 = .ok (.if_icmp .ge 16, 3) := by decide +kernel
theorem dX12_runsOnce_57 : decode cX12_runsOnce 57 = .ok (.aload_n 0, 1) := by decide +kernel
theorem dX12_runsOnce_58 : decode cX12_runsOnce 58 = .ok (.getfield 196, 3) := by decide +kernel
theorem dX12_runsOnce_61 : decode cX12_runsOnce 61 = .ok (.iload_n 3, 1) := by decide +kernel
theorem dX12_runsOnce_62 : decode cX12_runsOnce 62 = .ok (.iconst 0, 1) := by decide +kernel
theorem dX12_runsOnce_63 : decode cX12_runsOnce 63 = .ok (.iastore, 1) := by decide +kernel
theorem dX12_runsOnce_64 : decode cX12_runsOnce 64 = .ok (.iinc 3 1, 3) := by decide +kernel
theorem dX12_runsOnce_67 : decode cX12_runsOnce 67 = .ok (.goto (-18), 3) := by decide +kernel
theorem dX12_runsOnce_70 : decode cX12_runsOnce 70 = .ok (.iconst 0, 1) := by decide +kernel
theorem dX12_runsOnce_71 : decode cX12_runsOnce 71 = .ok (.istore_n 3, 1) := by decide +kernel
theorem dX12_runsOnce_72 : decode cX12_runsOnce 72 = .ok (.iload_n 3, 1) := by decide +kernel
theorem dX12_runsOnce_73 : decode cX12_runsOnce 73 = .ok (.aload_n 0, 1) := by decide +kernel
theorem dX12_runsOnce_74 : decode cX12_runsOnce 74 = .ok (.getfield 494, 3) := by decide +kernel
theorem dX12_runsOnce_77 : decode cX12_runsOnce 77 = .ok (.if_icmp .ge 41, 3) := by decide +kernel
theorem dX12_runsOnce_80 : decode cX12_runsOnce 80 = .ok (.aload_n 0, 1) := by decide +kernel
theorem dX12_runsOnce_81 : decode cX12_runsOnce 81 = .ok (.getfield 202, 3) := by decide +kernel
theorem dX12_runsOnce_84 : decode cX12_runsOnce 84 = .ok (.iload_n 3, 1) := by decide +kernel
theorem dX12_runsOnce_85 : decode cX12_runsOnce 85 = .ok (.baload, 1) := by decide +kernel
theorem dX12_runsOnce_86 : decode cX12_runsOnce 86 = .ok (.ifCond .eq 26, 3) := by decide +kernel
theorem dX12_runsOnce_89 : decode cX12_runsOnce 89 = .ok (.aload_n 0, 1) := by decide +kernel
theorem dX12_runsOnce_90 : decode cX12_runsOnce 90 = .ok (.iload_n 3, 1) := by decide +kernel
theorem dX12_runsOnce_91 : decode cX12_runsOnce 91 = .ok (.iconst 1, 1) := by decide +kernel
theorem dX12_runsOnce_92 : decode cX12_runsOnce 92 = .ok (.invokevirtual 521, 3) := by decide +kernel
theorem dX12_runsOnce_95 : decode cX12_runsOnce 95 = .ok (.ifCond .ne 17, 3) := by decide +kernel
theorem dX12_runsOnce_98 : decode cX12_runsOnce 98 = .ok (.aload_n 0, 1) := by decide +kernel
theorem dX12_runsOnce_99 : decode cX12_runsOnce 99 = .ok (.getfield 196, 3) := by decide +kernel
theorem dX12_runsOnce_102 : decode cX12_runsOnce 102 = .ok (.iload_n 3, 1) := by decide +kernel
theorem dX12_runsOnce_103 : decode cX12_runsOnce 103 = .ok (.iaload, 1) := by decide +kernel
theorem dX12_runsOnce_104 : decode cX12_runsOnce 104 = .ok (.ifCond .ne 8, 3) := by decide +kernel
theorem dX12_runsOnce_107 : decode cX12_runsOnce 107 = .ok (.aload_n 0, 1) := by decide +kernel
theorem dX12_runsOnce_108 : decode cX12_runsOnce 108 = .ok (.iload_n 3, 1) := by decide +kernel
theorem dX12_runsOnce_109 : decode cX12_runsOnce 109 = .ok (.invokevirtual 579, 3) := by decide +kernel
theorem dX12_runsOnce_112 : decode cX12_runsOnce 112 = .ok (.iinc 3 1, 3) := by decide +kernel
theorem dX12_runsOnce_115 : decode cX12_runsOnce 115 = .ok (.goto (-43), 3) := by decide +kernel
theorem dX12_runsOnce_118 : decode cX12_runsOnce 118 = .ok (.iconst 0, 1) := by decide +kernel
theorem dX12_runsOnce_119 : decode cX12_runsOnce 119 = .ok (.istore_n 3, 1) := by decide +kernel
theorem dX12_runsOnce_120 : decode cX12_runsOnce 120 = .ok (.iload_n 3, 1) := by decide +kernel
theorem dX12_runsOnce_121 : decode cX12_runsOnce 121 = .ok (.bipush 10, 2) := by decide +kernel
theorem dX12_runsOnce_123 : decode cX12_runsOnce 123 = .ok (.if_icmp .ge 39, 3) := by decide +kernel
theorem dX12_runsOnce_126 : decode cX12_runsOnce 126 = .ok (.aload_n 0, 1) := by decide +kernel
theorem dX12_runsOnce_127 : decode cX12_runsOnce 127 = .ok (.iload_n 1, 1) := by decide +kernel
theorem dX12_runsOnce_128 : decode cX12_runsOnce 128 = .ok (.iload_n 3, 1) := by decide +kernel
theorem dX12_runsOnce_129 : decode cX12_runsOnce 129 = .ok (.invokevirtual 524, 3) := by decide +kernel
theorem dX12_runsOnce_132 : decode cX12_runsOnce 132 = .ok (.istore 4, 2) := by decide +kernel
theorem dX12_runsOnce_134 : decode cX12_runsOnce 134 = .ok (.iload 4, 2) := by decide +kernel
theorem dX12_runsOnce_136 : decode cX12_runsOnce 136 = .ok (.iconst (-1), 1) := by decide +kernel
theorem dX12_runsOnce_137 : decode cX12_runsOnce 137 = .ok (.if_icmp .eq 19, 3) := by decide +kernel
theorem dX12_runsOnce_140 : decode cX12_runsOnce 140 = .ok (.aload_n 0, 1) := by decide +kernel
theorem dX12_runsOnce_141 : decode cX12_runsOnce 141 = .ok (.getfield 196, 3) := by decide +kernel
theorem dX12_runsOnce_144 : decode cX12_runsOnce 144 = .ok (.iload 4, 2) := by decide +kernel
theorem dX12_runsOnce_146 : decode cX12_runsOnce 146 = .ok (.iaload, 1) := by decide +kernel
theorem dX12_runsOnce_147 : decode cX12_runsOnce 147 = .ok (.ifCond .ne 9, 3) := by decide +kernel
theorem dX12_runsOnce_150 : decode cX12_runsOnce 150 = .ok (.aload_n 0, 1) := by decide +kernel
theorem dX12_runsOnce_151 : decode cX12_runsOnce 151 = .ok (.iload 4, 2) := by decide +kernel
theorem dX12_runsOnce_153 : decode cX12_runsOnce 153 = .ok (.invokevirtual 579, 3) := by decide +kernel
theorem dX12_runsOnce_156 : decode cX12_runsOnce 156 = .ok (.iinc 3 1, 3) := by decide +kernel
theorem dX12_runsOnce_159 : decode cX12_runsOnce 159 = .ok (.goto (-39), 3) := by decide +kernel
theorem dX12_runsOnce_162 : decode cX12_runsOnce 162 = .ok (.iconst 0, 1) := by decide +kernel
theorem dX12_runsOnce_163 : decode cX12_runsOnce 163 = .ok (.ireturn, 1) := by decide +kernel
theorem dX12_decides_0 : decode cX12_decides 0 = .ok (.aload_n 0, 1) := by decide +kernel
theorem dX12_decides_1 : decode cX12_decides 1 = .ok (.getfield 184, 3) := by decide +kernel
theorem dX12_decides_4 : decode cX12_decides 4 = .ok (.iload_n 1, 1) := by decide +kernel
theorem dX12_decides_5 : decode cX12_decides 5 = .ok (.aload_n 0, 1) := by decide +kernel
theorem dX12_decides_6 : decode cX12_decides 6 = .ok (.aload_n 0, 1) := by decide +kernel
theorem dX12_decides_7 : decode cX12_decides 7 = .ok (.getfield 64, 3) := by decide +kernel
theorem dX12_decides_10 : decode cX12_decides 10 = .ok (.iload_n 1, 1) := by decide +kernel
theorem dX12_decides_11 : decode cX12_decides 11 = .ok (.iaload, 1) := by decide +kernel
theorem dX12_decides_12 : decode cX12_decides 12 = .ok (.invokevirtual 582, 3) := by decide +kernel
theorem dX12_decides_15 : decode cX12_decides 15 = .ok (.iastore, 1) := by decide +kernel
theorem dX12_decides_16 : decode cX12_decides 16 = .ok (.aload_n 0, 1) := by decide +kernel
theorem dX12_decides_17 : decode cX12_decides 17 = .ok (.getfield 184, 3) := by decide +kernel
theorem dX12_decides_20 : decode cX12_decides 20 = .ok (.iload_n 1, 1) := by decide +kernel
theorem dX12_decides_21 : decode cX12_decides 21 = .ok (.iaload, 1) := by decide +kernel
theorem dX12_decides_22 : decode cX12_decides 22 = .ok (.ifCond .ne 104, 3) := by decide +kernel
theorem dX12_decides_25 : decode cX12_decides 25 = .ok (.aload_n 0, 1) := by decide +kernel
theorem dX12_decides_26 : decode cX12_decides 26 = .ok (.aload_n 0, 1) := by decide +kernel
theorem dX12_decides_27 : decode cX12_decides 27 = .ok (.getfield 64, 3) := by decide +kernel
theorem dX12_decides_30 : decode cX12_decides 30 = .ok (.iload_n 1, 1) := by decide +kernel
theorem dX12_decides_31 : decode cX12_decides 31 = .ok (.iaload, 1) := by decide +kernel
theorem dX12_decides_32 : decode cX12_decides 32 = .ok (.iconst 0, 1) := by decide +kernel
theorem dX12_decides_33 : decode cX12_decides 33 = .ok (.invokevirtual 524, 3) := by decide +kernel
theorem dX12_decides_36 : decode cX12_decides 36 = .ok (.istore_n 2, 1) := by decide +kernel
theorem dX12_decides_37 : decode cX12_decides 37 = .ok (.iload_n 2, 1) := by decide +kernel
theorem dX12_decides_38 : decode cX12_decides 38 = .ok (.iconst (-1), 1) := by decide +kernel
theorem dX12_decides_39 : decode cX12_decides 39 = .ok (.if_icmp .eq 30, 3) := by decide +kernel
theorem dX12_decides_42 : decode cX12_decides 42 = .ok (.aload_n 0, 1) := by decide +kernel
theorem dX12_decides_43 : decode cX12_decides 43 = .ok (.getfield 196, 3) := by decide +kernel
theorem dX12_decides_46 : decode cX12_decides 46 = .ok (.iload_n 2, 1) := by decide +kernel
theorem dX12_decides_47 : decode cX12_decides 47 = .ok (.iaload, 1) := by decide +kernel
theorem dX12_decides_48 : decode cX12_decides 48 = .ok (.iconst 2, 1) := by decide +kernel
theorem dX12_decides_49 : decode cX12_decides 49 = .ok (.if_icmp .ne 20, 3) := by decide +kernel
theorem dX12_decides_52 : decode cX12_decides 52 = .ok (.aload_n 0, 1) := by decide +kernel
theorem dX12_decides_53 : decode cX12_decides 53 = .ok (.aload_n 0, 1) := by decide +kernel
theorem dX12_decides_54 : decode cX12_decides 54 = .ok (.getfield 199, 3) := by decide +kernel
theorem dX12_decides_57 : decode cX12_decides 57 = .ok (.iload_n 2, 1) := by decide +kernel
theorem dX12_decides_58 : decode cX12_decides 58 = .ok (.iaload, 1) := by decide +kernel
theorem dX12_decides_59 : decode cX12_decides 59 = .ok (.invokevirtual 552, 3) := by decide +kernel
theorem dX12_decides_62 : decode cX12_decides 62 = .ok (.ifCond .ne 7, 3) := by decide +kernel
theorem dX12_decides_65 : decode cX12_decides 65 = .ok (.iconst 1, 1) := by decide +kernel
theorem dX12_decides_66 : decode cX12_decides 66 = .ok (.goto 4, 3) := by decide +kernel
theorem dX12_decides_69 : decode cX12_decides 69 = .ok (.iconst 0, 1) := by decide +kernel
theorem dX12_decides_70 : decode cX12_decides 70 = .ok (.istore_n 3, 1) := by decide +kernel
theorem dX12_decides_71 : decode cX12_decides 71 = .ok (.aload_n 0, 1) := by decide +kernel
theorem dX12_decides_72 : decode cX12_decides 72 = .ok (.getfield 184, 3) := by decide +kernel
theorem dX12_decides_75 : decode cX12_decides 75 = .ok (.iload_n 1, 1) := by decide +kernel
theorem dX12_decides_76 : decode cX12_decides 76 = .ok (.iload_n 3, 1) := by decide +kernel
theorem dX12_decides_77 : decode cX12_decides 77 = .ok (.ifCond .eq 7, 3) := by decide +kernel
theorem dX12_decides_80 : decode cX12_decides 80 = .ok (.iconst 0, 1) := by decide +kernel
theorem dX12_decides_81 : decode cX12_decides 81 = .ok (.goto 5, 3) := by decide +kernel
theorem dX12_decides_84 : decode cX12_decides 84 = .ok (.bipush 11, 2) := by decide +kernel
theorem dX12_decides_86 : decode cX12_decides 86 = .ok (.iastore, 1) := by decide +kernel
theorem dX12_decides_87 : decode cX12_decides 87 = .ok (.aload_n 0, 1) := by decide +kernel
theorem dX12_decides_88 : decode cX12_decides 88 = .ok (.getfield 187, 3) := by decide +kernel
theorem dX12_decides_91 : decode cX12_decides 91 = .ok (.iload_n 1, 1) := by decide +kernel
theorem dX12_decides_92 : decode cX12_decides 92 = .ok (.iload_n 3, 1) := by decide +kernel
theorem dX12_decides_93 : decode cX12_decides 93 = .ok (.ifCond .eq 26, 3) := by decide +kernel
theorem dX12_decides_96 : decode cX12_decides 96 = .ok (.aload_n 0, 1) := by decide +kernel
theorem dX12_decides_97 : decode cX12_decides 97 = .ok (.getfield 211, 3) := by decide +kernel
theorem dX12_decides_100 : decode cX12_decides 100 = .ok (.aload_n 0, 1) := by decide +kernel
theorem dX12_decides_101 : decode cX12_decides 101 = .ok (.getfield 199, 3) := by decide +kernel
theorem dX12_decides_104 : decode cX12_decides 104 = .ok (.iload_n 2, 1) := by decide +kernel
theorem dX12_decides_105 : decode cX12_decides 105 = .ok (.iaload, 1) := by decide +kernel
theorem dX12_decides_106 : decode cX12_decides 106 = .ok (.iaload, 1) := by decide +kernel
theorem dX12_decides_107 : decode cX12_decides 107 = .ok (.ifCond .eq 12, 3) := by decide +kernel
theorem dX12_decides_110 : decode cX12_decides 110 = .ok (.aload_n 0, 1) := by decide +kernel
theorem dX12_decides_111 : decode cX12_decides 111 = .ok (.getfield 58, 3) := by decide +kernel
theorem dX12_decides_114 : decode cX12_decides 114 = .ok (.iload_n 1, 1) := by decide +kernel
theorem dX12_decides_115 : decode cX12_decides 115 = .ok (.iaload, 1) := by decide +kernel
theorem dX12_decides_116 : decode cX12_decides 116 = .ok (.goto 9, 3) := by decide +kernel
theorem dX12_decides_119 : decode cX12_decides 119 = .ok (.aload_n 0, 1) := by decide +kernel
theorem dX12_decides_120 : decode cX12_decides 120 = .ok (.getfield 61, 3) := by decide +kernel
theorem dX12_decides_123 : decode cX12_decides 123 = .ok (.iload_n 1, 1) := by decide +kernel
theorem dX12_decides_124 : decode cX12_decides 124 = .ok (.iaload, 1) := by decide +kernel
theorem dX12_decides_125 : decode cX12_decides 125 = .ok (.iastore, 1) := by decide +kernel
theorem dX12_decides_126 : decode cX12_decides 126 = .ok (.return_, 1) := by decide +kernel
theorem dX12_run_0 : decode cX12_run 0 = .ok (.aload_n 0, 1) := by decide +kernel
theorem dX12_run_1 : decode cX12_run 1 = .ok (.aload_n 0, 1) := by decide +kernel
theorem dX12_run_2 : decode cX12_run 2 = .ok (.iload_n 1, 1) := by decide +kernel
theorem dX12_run_3 : decode cX12_run 3 = .ok (.invokevirtual 330, 3) := by decide +kernel
theorem dX12_run_6 : decode cX12_run 6 = .ok (.iconst 1, 1) := by decide +kernel
theorem dX12_run_7 : decode cX12_run 7 = .ok (.iconst 1, 1) := by decide +kernel
theorem dX12_run_8 : decode cX12_run 8 = .ok (.invokevirtual 298, 3) := by decide +kernel
theorem dX12_run_11 : decode cX12_run 11 = .ok (.ifCond .ne 5, 3) := by decide +kernel
theorem dX12_run_14 : decode cX12_run 14 = .ok (.iconst 0, 1) := by decide +kernel
theorem dX12_run_15 : decode cX12_run 15 = .ok (.ireturn, 1) := by decide +kernel
theorem dX12_run_16 : decode cX12_run 16 = .ok (.aload_n 0, 1) := by decide +kernel
theorem dX12_run_17 : decode cX12_run 17 = .ok (.iload_n 1, 1) := by decide +kernel
theorem dX12_run_18 : decode cX12_run 18 = .ok (.invokevirtual 481, 3) := by decide +kernel
theorem dX12_run_21 : decode cX12_run 21 = .ok (.ifCond .ne 6, 3) := by decide +kernel
theorem dX12_run_24 : decode cX12_run 24 = .ok (.bipush 10, 2) := by decide +kernel
theorem dX12_run_26 : decode cX12_run 26 = .ok (.ireturn, 1) := by decide +kernel
theorem dX12_run_27 : decode cX12_run 27 = .ok (.aload_n 0, 1) := by decide +kernel
theorem dX12_run_28 : decode cX12_run 28 = .ok (.lconst 1, 1) := by decide +kernel
theorem dX12_run_29 : decode cX12_run 29 = .ok (.iload_n 1, 1) := by decide +kernel
theorem dX12_run_30 : decode cX12_run 30 = .ok (.lshl, 1) := by decide +kernel
theorem dX12_run_31 : decode cX12_run 31 = .ok (.invokevirtual 470, 3) := by decide +kernel
theorem dX12_run_34 : decode cX12_run 34 = .ok (.lstore_n 2, 1) := by decide +kernel
theorem dX12_run_35 : decode cX12_run 35 = .ok (.iconst 0, 1) := by decide +kernel
theorem dX12_run_36 : decode cX12_run 36 = .ok (.istore 4, 2) := by decide +kernel
theorem dX12_run_38 : decode cX12_run 38 = .ok (.iload 4, 2) := by decide +kernel
theorem dX12_run_40 : decode cX12_run 40 = .ok (.aload_n 0, 1) := by decide +kernel
theorem dX12_run_41 : decode cX12_run 41 = .ok (.getfield 288, 3) := by decide +kernel
theorem dX12_run_44 : decode cX12_run 44 = .ok (.if_icmp .ge 37, 3) := by decide +kernel
theorem dX12_run_47 : decode cX12_run 47 = .ok (.lload_n 2, 1) := by decide +kernel
theorem dX12_run_48 : decode cX12_run 48 = .ok (.iload 4, 2) := by decide +kernel
theorem dX12_run_50 : decode cX12_run 50 = .ok (.lshr, 1) := by decide +kernel
theorem dX12_run_51 : decode cX12_run 51 = .ok (.lconst 1, 1) := by decide +kernel
theorem dX12_run_52 : decode cX12_run 52 = .ok (.land, 1) := by decide +kernel
theorem dX12_run_53 : decode cX12_run 53 = .ok (.lconst 1, 1) := by decide +kernel
theorem dX12_run_54 : decode cX12_run 54 = .ok (.lcmp, 1) := by decide +kernel
theorem dX12_run_55 : decode cX12_run 55 = .ok (.ifCond .ne 20, 3) := by decide +kernel
theorem dX12_run_58 : decode cX12_run 58 = .ok (.aload_n 0, 1) := by decide +kernel
theorem dX12_run_59 : decode cX12_run 59 = .ok (.getfield 55, 3) := by decide +kernel
theorem dX12_run_62 : decode cX12_run 62 = .ok (.iload 4, 2) := by decide +kernel
theorem dX12_run_64 : decode cX12_run 64 = .ok (.iaload, 1) := by decide +kernel
theorem dX12_run_65 : decode cX12_run 65 = .ok (.iconst 4, 1) := by decide +kernel
theorem dX12_run_66 : decode cX12_run 66 = .ok (.if_icmp .ne 9, 3) := by decide +kernel
theorem dX12_run_69 : decode cX12_run 69 = .ok (.aload_n 0, 1) := by decide +kernel
theorem dX12_run_70 : decode cX12_run 70 = .ok (.iload 4, 2) := by decide +kernel
theorem dX12_run_72 : decode cX12_run 72 = .ok (.invokevirtual 585, 3) := by decide +kernel
theorem dX12_run_75 : decode cX12_run 75 = .ok (.iinc 4 1, 3) := by decide +kernel
theorem dX12_run_78 : decode cX12_run 78 = .ok (.goto (-40), 3) := by decide +kernel
theorem dX12_run_81 : decode cX12_run 81 = .ok (.aload_n 0, 1) := by decide +kernel
theorem dX12_run_82 : decode cX12_run 82 = .ok (.iload_n 1, 1) := by decide +kernel
theorem dX12_run_83 : decode cX12_run 83 = .ok (.invokevirtual 582, 3) := by decide +kernel
theorem dX12_run_86 : decode cX12_run 86 = .ok (.istore 4, 2) := by decide +kernel
theorem dX12_run_88 : decode cX12_run 88 = .ok (.iload 4, 2) := by decide +kernel
theorem dX12_run_90 : decode cX12_run 90 = .ok (.ifCond .ne 8, 3) := by decide +kernel
theorem dX12_run_93 : decode cX12_run 93 = .ok (.aload_n 0, 1) := by decide +kernel
theorem dX12_run_94 : decode cX12_run 94 = .ok (.iload_n 1, 1) := by decide +kernel
theorem dX12_run_95 : decode cX12_run 95 = .ok (.invokevirtual 588, 3) := by decide +kernel
theorem dX12_run_98 : decode cX12_run 98 = .ok (.iload 4, 2) := by decide +kernel
theorem dX12_run_100 : decode cX12_run 100 = .ok (.ireturn, 1) := by decide +kernel
theorem dX12_keeps_0 : decode cX12_keeps 0 = .ok (.aload_n 0, 1) := by decide +kernel
theorem dX12_keeps_1 : decode cX12_keeps 1 = .ok (.iconst 1, 1) := by decide +kernel
theorem dX12_keeps_2 : decode cX12_keeps 2 = .ok (.putfield 591, 3) := by decide +kernel
theorem dX12_keeps_5 : decode cX12_keeps 5 = .ok (.iconst 0, 1) := by decide +kernel
theorem dX12_keeps_6 : decode cX12_keeps 6 = .ok (.istore_n 2, 1) := by decide +kernel
theorem dX12_keeps_7 : decode cX12_keeps 7 = .ok (.iload_n 2, 1) := by decide +kernel
theorem dX12_keeps_8 : decode cX12_keeps 8 = .ok (.bipush 10, 2) := by decide +kernel
theorem dX12_keeps_10 : decode cX12_keeps 10 = .ok (.if_icmp .ge 47, 3) := by decide +kernel
theorem dX12_keeps_13 : decode cX12_keeps 13 = .ok (.aload_n 0, 1) := by decide +kernel
theorem dX12_keeps_14 : decode cX12_keeps 14 = .ok (.iload_n 1, 1) := by decide +kernel
theorem dX12_keeps_15 : decode cX12_keeps 15 = .ok (.iload_n 2, 1) := by decide +kernel
theorem dX12_keeps_16 : decode cX12_keeps 16 = .ok (.invokevirtual 524, 3) := by decide +kernel
theorem dX12_keeps_19 : decode cX12_keeps 19 = .ok (.istore_n 3, 1) := by decide +kernel
theorem dX12_keeps_20 : decode cX12_keeps 20 = .ok (.aload_n 0, 1) := by decide +kernel
theorem dX12_keeps_21 : decode cX12_keeps 21 = .ok (.getfield 233, 3) := by decide +kernel
theorem dX12_keeps_24 : decode cX12_keeps 24 = .ok (.iload_n 2, 1) := by decide +kernel
theorem dX12_keeps_25 : decode cX12_keeps 25 = .ok (.iload_n 3, 1) := by decide +kernel
theorem dX12_keeps_26 : decode cX12_keeps 26 = .ok (.iconst (-1), 1) := by decide +kernel
theorem dX12_keeps_27 : decode cX12_keeps 27 = .ok (.if_icmp .eq 22, 3) := by decide +kernel
theorem dX12_keeps_30 : decode cX12_keeps 30 = .ok (.aload_n 0, 1) := by decide +kernel
theorem dX12_keeps_31 : decode cX12_keeps 31 = .ok (.getfield 196, 3) := by decide +kernel
theorem dX12_keeps_34 : decode cX12_keeps 34 = .ok (.iload_n 3, 1) := by decide +kernel
theorem dX12_keeps_35 : decode cX12_keeps 35 = .ok (.iaload, 1) := by decide +kernel
theorem dX12_keeps_36 : decode cX12_keeps 36 = .ok (.iconst 2, 1) := by decide +kernel
theorem dX12_keeps_37 : decode cX12_keeps 37 = .ok (.if_icmp .ne 12, 3) := by decide +kernel
theorem dX12_keeps_40 : decode cX12_keeps 40 = .ok (.aload_n 0, 1) := by decide +kernel
theorem dX12_keeps_41 : decode cX12_keeps 41 = .ok (.getfield 199, 3) := by decide +kernel
theorem dX12_keeps_44 : decode cX12_keeps 44 = .ok (.iload_n 3, 1) := by decide +kernel
theorem dX12_keeps_45 : decode cX12_keeps 45 = .ok (.iaload, 1) := by decide +kernel
theorem dX12_keeps_46 : decode cX12_keeps 46 = .ok (.goto 4, 3) := by decide +kernel
theorem dX12_keeps_49 : decode cX12_keeps 49 = .ok (.iconst (-1), 1) := by decide +kernel
theorem dX12_keeps_50 : decode cX12_keeps 50 = .ok (.iastore, 1) := by decide +kernel
theorem dX12_keeps_51 : decode cX12_keeps 51 = .ok (.iinc 2 1, 3) := by decide +kernel
theorem dX12_keeps_54 : decode cX12_keeps 54 = .ok (.goto (-47), 3) := by decide +kernel
theorem dX12_keeps_57 : decode cX12_keeps 57 = .ok (.iconst 0, 1) := by decide +kernel
theorem dX12_keeps_58 : decode cX12_keeps 58 = .ok (.istore_n 2, 1) := by decide +kernel
theorem dX12_keeps_59 : decode cX12_keeps 59 = .ok (.iload_n 2, 1) := by decide +kernel
theorem dX12_keeps_60 : decode cX12_keeps 60 = .ok (.aload_n 0, 1) := by decide +kernel
theorem dX12_keeps_61 : decode cX12_keeps 61 = .ok (.getfield 527, 3) := by decide +kernel
theorem dX12_keeps_64 : decode cX12_keeps 64 = .ok (.if_icmp .ge 57, 3) := by decide +kernel
theorem dX12_keeps_67 : decode cX12_keeps 67 = .ok (.aload_n 0, 1) := by decide +kernel
theorem dX12_keeps_68 : decode cX12_keeps 68 = .ok (.getfield 236, 3) := by decide +kernel
theorem dX12_keeps_71 : decode cX12_keeps 71 = .ok (.iload_n 2, 1) := by decide +kernel
theorem dX12_keeps_72 : decode cX12_keeps 72 = .ok (.aload_n 0, 1) := by decide +kernel
theorem dX12_keeps_73 : decode cX12_keeps 73 = .ok (.getfield 205, 3) := by decide +kernel
theorem dX12_keeps_76 : decode cX12_keeps 76 = .ok (.iload_n 2, 1) := by decide +kernel
theorem dX12_keeps_77 : decode cX12_keeps 77 = .ok (.iaload, 1) := by decide +kernel
theorem dX12_keeps_78 : decode cX12_keeps 78 = .ok (.iastore, 1) := by decide +kernel
theorem dX12_keeps_79 : decode cX12_keeps 79 = .ok (.aload_n 0, 1) := by decide +kernel
theorem dX12_keeps_80 : decode cX12_keeps 80 = .ok (.getfield 239, 3) := by decide +kernel
theorem dX12_keeps_83 : decode cX12_keeps 83 = .ok (.iload_n 2, 1) := by decide +kernel
theorem dX12_keeps_84 : decode cX12_keeps 84 = .ok (.aload_n 0, 1) := by decide +kernel
theorem dX12_keeps_85 : decode cX12_keeps 85 = .ok (.getfield 208, 3) := by decide +kernel
theorem dX12_keeps_88 : decode cX12_keeps 88 = .ok (.iload_n 2, 1) := by decide +kernel
theorem dX12_keeps_89 : decode cX12_keeps 89 = .ok (.iaload, 1) := by decide +kernel
theorem dX12_keeps_90 : decode cX12_keeps 90 = .ok (.iastore, 1) := by decide +kernel
theorem dX12_keeps_91 : decode cX12_keeps 91 = .ok (.aload_n 0, 1) := by decide +kernel
theorem dX12_keeps_92 : decode cX12_keeps 92 = .ok (.getfield 242, 3) := by decide +kernel
theorem dX12_keeps_95 : decode cX12_keeps 95 = .ok (.iload_n 2, 1) := by decide +kernel
theorem dX12_keeps_96 : decode cX12_keeps 96 = .ok (.aload_n 0, 1) := by decide +kernel
theorem dX12_keeps_97 : decode cX12_keeps 97 = .ok (.getfield 211, 3) := by decide +kernel
theorem dX12_keeps_100 : decode cX12_keeps 100 = .ok (.iload_n 2, 1) := by decide +kernel
theorem dX12_keeps_101 : decode cX12_keeps 101 = .ok (.iaload, 1) := by decide +kernel
theorem dX12_keeps_102 : decode cX12_keeps 102 = .ok (.iastore, 1) := by decide +kernel
theorem dX12_keeps_103 : decode cX12_keeps 103 = .ok (.aload_n 0, 1) := by decide +kernel
theorem dX12_keeps_104 : decode cX12_keeps 104 = .ok (.getfield 245, 3) := by decide +kernel
theorem dX12_keeps_107 : decode cX12_keeps 107 = .ok (.iload_n 2, 1) := by decide +kernel
theorem dX12_keeps_108 : decode cX12_keeps 108 = .ok (.aload_n 0, 1) := by decide +kernel
theorem dX12_keeps_109 : decode cX12_keeps 109 = .ok (.getfield 214, 3) := by decide +kernel
theorem dX12_keeps_112 : decode cX12_keeps 112 = .ok (.iload_n 2, 1) := by decide +kernel
theorem dX12_keeps_113 : decode cX12_keeps 113 = .ok (.laload, 1) := by decide +kernel
theorem dX12_keeps_114 : decode cX12_keeps 114 = .ok (.lastore, 1) := by decide +kernel
theorem dX12_keeps_115 : decode cX12_keeps 115 = .ok (.iinc 2 1, 3) := by decide +kernel
theorem dX12_keeps_118 : decode cX12_keeps 118 = .ok (.goto (-59), 3) := by decide +kernel
theorem dX12_keeps_121 : decode cX12_keeps 121 = .ok (.aload_n 0, 1) := by decide +kernel
theorem dX12_keeps_122 : decode cX12_keeps 122 = .ok (.aload_n 0, 1) := by decide +kernel
theorem dX12_keeps_123 : decode cX12_keeps 123 = .ok (.getfield 555, 3) := by decide +kernel
theorem dX12_keeps_126 : decode cX12_keeps 126 = .ok (.putfield 595, 3) := by decide +kernel
theorem dX12_keeps_129 : decode cX12_keeps 129 = .ok (.iconst 0, 1) := by decide +kernel
theorem dX12_keeps_130 : decode cX12_keeps 130 = .ok (.istore_n 2, 1) := by decide +kernel
theorem dX12_keeps_131 : decode cX12_keeps 131 = .ok (.iload_n 2, 1) := by decide +kernel
theorem dX12_keeps_132 : decode cX12_keeps 132 = .ok (.aload_n 0, 1) := by decide +kernel
theorem dX12_keeps_133 : decode cX12_keeps 133 = .ok (.getfield 555, 3) := by decide +kernel
theorem dX12_keeps_136 : decode cX12_keeps 136 = .ok (.if_icmp .ge 21, 3) := by decide +kernel
theorem dX12_keeps_139 : decode cX12_keeps 139 = .ok (.aload_n 0, 1) := by decide +kernel
theorem dX12_keeps_140 : decode cX12_keeps 140 = .ok (.getfield 248, 3) := by decide +kernel
theorem dX12_keeps_143 : decode cX12_keeps 143 = .ok (.iload_n 2, 1) := by decide +kernel
theorem dX12_keeps_144 : decode cX12_keeps 144 = .ok (.aload_n 0, 1) := by decide +kernel
theorem dX12_keeps_145 : decode cX12_keeps 145 = .ok (.getfield 230, 3) := by decide +kernel
theorem dX12_keeps_148 : decode cX12_keeps 148 = .ok (.iload_n 2, 1) := by decide +kernel
theorem dX12_keeps_149 : decode cX12_keeps 149 = .ok (.iaload, 1) := by decide +kernel
theorem dX12_keeps_150 : decode cX12_keeps 150 = .ok (.iastore, 1) := by decide +kernel
theorem dX12_keeps_151 : decode cX12_keeps 151 = .ok (.iinc 2 1, 3) := by decide +kernel
theorem dX12_keeps_154 : decode cX12_keeps 154 = .ok (.goto (-23), 3) := by decide +kernel
theorem dX12_keeps_157 : decode cX12_keeps 157 = .ok (.aload_n 0, 1) := by decide +kernel
theorem dX12_keeps_158 : decode cX12_keeps 158 = .ok (.aload_n 0, 1) := by decide +kernel
theorem dX12_keeps_159 : decode cX12_keeps 159 = .ok (.getfield 494, 3) := by decide +kernel
theorem dX12_keeps_162 : decode cX12_keeps 162 = .ok (.putfield 598, 3) := by decide +kernel
theorem dX12_keeps_165 : decode cX12_keeps 165 = .ok (.aload_n 0, 1) := by decide +kernel
theorem dX12_keeps_166 : decode cX12_keeps 166 = .ok (.iconst 0, 1) := by decide +kernel
theorem dX12_keeps_167 : decode cX12_keeps 167 = .ok (.putfield 601, 3) := by decide +kernel
theorem dX12_keeps_170 : decode cX12_keeps 170 = .ok (.iconst 0, 1) := by decide +kernel
theorem dX12_keeps_171 : decode cX12_keeps 171 = .ok (.istore_n 2, 1) := by decide +kernel
theorem dX12_keeps_172 : decode cX12_keeps 172 = .ok (.iload_n 2, 1) := by decide +kernel
theorem dX12_keeps_173 : decode cX12_keeps 173 = .ok (.aload_n 0, 1) := by decide +kernel
theorem dX12_keeps_174 : decode cX12_keeps 174 = .ok (.getfield 494, 3) := by decide +kernel
theorem dX12_keeps_177 : decode cX12_keeps 177 = .ok (.if_icmp .ge 32, 3) := by decide +kernel
theorem dX12_keeps_180 : decode cX12_keeps 180 = .ok (.aload_n 0, 1) := by decide +kernel
theorem dX12_keeps_181 : decode cX12_keeps 181 = .ok (.dup, 1) := by decide +kernel
theorem dX12_keeps_182 : decode cX12_keeps 182 = .ok (.getfield 601, 3) := by decide +kernel
theorem dX12_keeps_185 : decode cX12_keeps 185 = .ok (.aload_n 0, 1) := by decide +kernel
theorem dX12_keeps_186 : decode cX12_keeps 186 = .ok (.getfield 202, 3) := by decide +kernel
theorem dX12_keeps_189 : decode cX12_keeps 189 = .ok (.iload_n 2, 1) := by decide +kernel
theorem dX12_keeps_190 : decode cX12_keeps 190 = .ok (.baload, 1) := by decide +kernel
theorem dX12_keeps_191 : decode cX12_keeps 191 = .ok (.ifCond .eq 7, 3) := by decide +kernel
theorem dX12_keeps_194 : decode cX12_keeps 194 = .ok (.iconst 0, 1) := by decide +kernel
theorem dX12_keeps_195 : decode cX12_keeps 195 = .ok (.goto 4, 3) := by decide +kernel
theorem dX12_keeps_198 : decode cX12_keeps 198 = .ok (.iconst 1, 1) := by decide +kernel
theorem dX12_keeps_199 : decode cX12_keeps 199 = .ok (.iadd, 1) := by decide +kernel
theorem dX12_keeps_200 : decode cX12_keeps 200 = .ok (.putfield 601, 3) := by decide +kernel
theorem dX12_keeps_203 : decode cX12_keeps 203 = .ok (.iinc 2 1, 3) := by decide +kernel
theorem dX12_keeps_206 : decode cX12_keeps 206 = .ok (.goto (-34), 3) := by decide +kernel
theorem dX12_keeps_209 : decode cX12_keeps 209 = .ok (.return_, 1) := by decide +kernel
theorem dX12_result_0 : decode cX12_result 0 = .ok (.iload_n 1, 1) := by decide +kernel
theorem dX12_result_1 : decode cX12_result 1 = .ok (.invokestatic 302, 3) := by decide +kernel
theorem dX12_result_4 : decode cX12_result 4 = .ok (.ifCond .eq 35, 3) := by decide +kernel
theorem dX12_result_7 : decode cX12_result 7 = .ok (.aload_n 0, 1) := by decide +kernel
theorem dX12_result_8 : decode cX12_result 8 = .ok (.getfield 591, 3) := by decide +kernel
theorem dX12_result_11 : decode cX12_result 11 = .ok (.ifCond .eq 28, 3) := by decide +kernel
theorem dX12_result_14 : decode cX12_result 14 = .ok (.aload_n 0, 1) := by decide +kernel
theorem dX12_result_15 : decode cX12_result 15 = .ok (.getfield 233, 3) := by decide +kernel
theorem dX12_result_18 : decode cX12_result 18 = .ok (.iload_n 1, 1) := by decide +kernel
theorem dX12_result_19 : decode cX12_result 19 = .ok (.invokestatic 302, 3) := by decide +kernel
theorem dX12_result_22 : decode cX12_result 22 = .ok (.ifCond .eq 7, 3) := by decide +kernel
theorem dX12_result_25 : decode cX12_result 25 = .ok (.iload_n 1, 1) := by decide +kernel
theorem dX12_result_26 : decode cX12_result 26 = .ok (.goto 4, 3) := by decide +kernel
theorem dX12_result_29 : decode cX12_result 29 = .ok (.iconst 0, 1) := by decide +kernel
theorem dX12_result_30 : decode cX12_result 30 = .ok (.iaload, 1) := by decide +kernel
theorem dX12_result_31 : decode cX12_result 31 = .ok (.iconst (-1), 1) := by decide +kernel
theorem dX12_result_32 : decode cX12_result 32 = .ok (.if_icmp .eq 7, 3) := by decide +kernel
theorem dX12_result_35 : decode cX12_result 35 = .ok (.iconst 1, 1) := by decide +kernel
theorem dX12_result_36 : decode cX12_result 36 = .ok (.goto 4, 3) := by decide +kernel
theorem dX12_result_39 : decode cX12_result 39 = .ok (.iconst 0, 1) := by decide +kernel
theorem dX12_result_40 : decode cX12_result 40 = .ok (.istore_n 3, 1) := by decide +kernel
theorem dX12_result_41 : decode cX12_result 41 = .ok (.aload_n 0, 1) := by decide +kernel
theorem dX12_result_42 : decode cX12_result 42 = .ok (.iload_n 1, 1) := by decide +kernel
theorem dX12_result_43 : decode cX12_result 43 = .ok (.invokestatic 302, 3) := by decide +kernel
theorem dX12_result_46 : decode cX12_result 46 = .ok (.iload_n 3, 1) := by decide +kernel
theorem dX12_result_47 : decode cX12_result 47 = .ok (.iload_n 3, 1) := by decide +kernel
theorem dX12_result_48 : decode cX12_result 48 = .ok (.ifCond .eq 39, 3) := by decide +kernel
theorem dX12_result_51 : decode cX12_result 51 = .ok (.iload_n 2, 1) := by decide +kernel
theorem dX12_result_52 : decode cX12_result 52 = .ok (.ifCond .lt 35, 3) := by decide +kernel
theorem dX12_result_55 : decode cX12_result 55 = .ok (.iload_n 2, 1) := by decide +kernel
theorem dX12_result_56 : decode cX12_result 56 = .ok (.i2l, 1) := by decide +kernel
theorem dX12_result_57 : decode cX12_result 57 = .ok (.aload_n 0, 1) := by decide +kernel
theorem dX12_result_58 : decode cX12_result 58 = .ok (.getfield 245, 3) := by decide +kernel
theorem dX12_result_61 : decode cX12_result 61 = .ok (.aload_n 0, 1) := by decide +kernel
theorem dX12_result_62 : decode cX12_result 62 = .ok (.getfield 233, 3) := by decide +kernel
theorem dX12_result_65 : decode cX12_result 65 = .ok (.iload_n 1, 1) := by decide +kernel
theorem dX12_result_66 : decode cX12_result 66 = .ok (.invokestatic 302, 3) := by decide +kernel
theorem dX12_result_69 : decode cX12_result 69 = .ok (.ifCond .eq 7, 3) := by decide +kernel
theorem dX12_result_72 : decode cX12_result 72 = .ok (.iload_n 1, 1) := by decide +kernel
theorem dX12_result_73 : decode cX12_result 73 = .ok (.goto 4, 3) := by decide +kernel
theorem dX12_result_76 : decode cX12_result 76 = .ok (.iconst 0, 1) := by decide +kernel
theorem dX12_result_77 : decode cX12_result 77 = .ok (.iaload, 1) := by decide +kernel
theorem dX12_result_78 : decode cX12_result 78 = .ok (.laload, 1) := by decide +kernel
theorem dX12_result_79 : decode cX12_result 79 = .ok (.lcmp, 1) := by decide +kernel
theorem dX12_result_80 : decode cX12_result 80 = .ok (.ifCond .ge 7, 3) := by decide +kernel
theorem dX12_result_83 : decode cX12_result 83 = .ok (.iconst 1, 1) := by decide +kernel
theorem dX12_result_84 : decode cX12_result 84 = .ok (.goto 4, 3) := by decide +kernel
theorem dX12_result_87 : decode cX12_result 87 = .ok (.iconst 0, 1) := by decide +kernel
theorem dX12_result_88 : decode cX12_result 88 = .ok (.invokevirtual 298, 3) := by decide +kernel
theorem dX12_result_91 : decode cX12_result 91 = .ok (.ifCond .ne 5, 3) := by decide +kernel
theorem dX12_result_94 : decode cX12_result 94 = .ok (.iconst 0, 1) := by decide +kernel
theorem dX12_result_95 : decode cX12_result 95 = .ok (.ireturn, 1) := by decide +kernel
theorem dX12_result_96 : decode cX12_result 96 = .ok (.aload_n 0, 1) := by decide +kernel
theorem dX12_result_97 : decode cX12_result 97 = .ok (.getfield 233, 3) := by decide +kernel
theorem dX12_result_100 : decode cX12_result 100 = .ok (.iload_n 1, 1) := by decide +kernel
theorem dX12_result_101 : decode cX12_result 101 = .ok (.iaload, 1) := by decide +kernel
theorem dX12_result_102 : decode cX12_result 102 = .ok (.istore 4, 2) := by decide +kernel
theorem dX12_result_104 : decode cX12_result 104 = .ok (.iload_n 2, 1) := by decide +kernel
theorem dX12_result_105 : decode cX12_result 105 = .ok (.i2l, 1) := by decide +kernel
theorem dX12_result_106 : decode cX12_result 106 = .ok (.lstore 5, 2) := by decide +kernel
theorem dX12_result_108 : decode cX12_result 108 = .ok (.aload_n 0, 1) := by decide +kernel
theorem dX12_result_109 : decode cX12_result 109 = .ok (.getfield 236, 3) := by decide +kernel
theorem dX12_result_112 : decode cX12_result 112 = .ok (.iload 4, 2) := by decide +kernel
theorem dX12_result_114 : decode cX12_result 114 = .ok (.iaload, 1) := by decide +kernel
theorem dX12_result_115 : decode cX12_result 115 = .ok (.iconst (-1), 1) := by decide +kernel
theorem dX12_result_116 : decode cX12_result 116 = .ok (.if_icmp .eq 81, 3) := by decide +kernel
theorem dX12_result_119 : decode cX12_result 119 = .ok (.lload 5, 2) := by decide +kernel
theorem dX12_result_121 : decode cX12_result 121 = .ok (.aload_n 0, 1) := by decide +kernel
theorem dX12_result_122 : decode cX12_result 122 = .ok (.getfield 245, 3) := by decide +kernel
theorem dX12_result_125 : decode cX12_result 125 = .ok (.aload_n 0, 1) := by decide +kernel
theorem dX12_result_126 : decode cX12_result 126 = .ok (.getfield 236, 3) := by decide +kernel
theorem dX12_result_129 : decode cX12_result 129 = .ok (.iload 4, 2) := by decide +kernel
theorem dX12_result_131 : decode cX12_result 131 = .ok (.iaload, 1) := by decide +kernel
theorem dX12_result_132 : decode cX12_result 132 = .ok (.laload, 1) := by decide +kernel
theorem dX12_result_133 : decode cX12_result 133 = .ok (.lcmp, 1) := by decide +kernel
theorem dX12_result_134 : decode cX12_result 134 = .ok (.ifCond .ge 7, 3) := by decide +kernel
theorem dX12_result_137 : decode cX12_result 137 = .ok (.iconst 1, 1) := by decide +kernel
theorem dX12_result_138 : decode cX12_result 138 = .ok (.goto 4, 3) := by decide +kernel
theorem dX12_result_141 : decode cX12_result 141 = .ok (.iconst 0, 1) := by decide +kernel
theorem dX12_result_142 : decode cX12_result 142 = .ok (.istore 7, 2) := by decide +kernel
theorem dX12_result_144 : decode cX12_result 144 = .ok (.lload 5, 2) := by decide +kernel
theorem dX12_result_146 : decode cX12_result 146 = .ok (.iload 7, 2) := by decide +kernel
theorem dX12_result_148 : decode cX12_result 148 = .ok (.ifCond .eq 7, 3) := by decide +kernel
theorem dX12_result_151 : decode cX12_result 151 = .ok (.lconst 0, 1) := by decide +kernel
theorem dX12_result_152 : decode cX12_result 152 = .ok (.goto 15, 3) := by decide +kernel
theorem dX12_result_155 : decode cX12_result 155 = .ok (.aload_n 0, 1) := by decide +kernel
theorem dX12_result_156 : decode cX12_result 156 = .ok (.getfield 245, 3) := by decide +kernel
theorem dX12_result_159 : decode cX12_result 159 = .ok (.aload_n 0, 1) := by decide +kernel
theorem dX12_result_160 : decode cX12_result 160 = .ok (.getfield 236, 3) := by decide +kernel
theorem dX12_result_163 : decode cX12_result 163 = .ok (.iload 4, 2) := by decide +kernel
theorem dX12_result_165 : decode cX12_result 165 = .ok (.iaload, 1) := by decide +kernel
theorem dX12_result_166 : decode cX12_result 166 = .ok (.laload, 1) := by decide +kernel
theorem dX12_result_167 : decode cX12_result 167 = .ok (.lsub, 1) := by decide +kernel
theorem dX12_result_168 : decode cX12_result 168 = .ok (.lstore 5, 2) := by decide +kernel
theorem dX12_result_170 : decode cX12_result 170 = .ok (.iload 7, 2) := by decide +kernel
theorem dX12_result_172 : decode cX12_result 172 = .ok (.ifCond .eq 13, 3) := by decide +kernel
theorem dX12_result_175 : decode cX12_result 175 = .ok (.aload_n 0, 1) := by decide +kernel
theorem dX12_result_176 : decode cX12_result 176 = .ok (.getfield 236, 3) := by decide +kernel
theorem dX12_result_179 : decode cX12_result 179 = .ok (.iload 4, 2) := by decide +kernel
theorem dX12_result_181 : decode cX12_result 181 = .ok (.iaload, 1) := by decide +kernel
theorem dX12_result_182 : decode cX12_result 182 = .ok (.goto 10, 3) := by decide +kernel
theorem dX12_result_185 : decode cX12_result 185 = .ok (.aload_n 0, 1) := by decide +kernel
theorem dX12_result_186 : decode cX12_result 186 = .ok (.getfield 239, 3) := by decide +kernel
theorem dX12_result_189 : decode cX12_result 189 = .ok (.iload 4, 2) := by decide +kernel
theorem dX12_result_191 : decode cX12_result 191 = .ok (.iaload, 1) := by decide +kernel
theorem dX12_result_192 : decode cX12_result 192 = .ok (.istore 4, 2) := by decide +kernel
theorem dX12_result_194 : decode cX12_result 194 = .ok (.goto (-86), 3) := by decide +kernel
theorem dX12_result_197 : decode cX12_result 197 = .ok (.aload_n 0, 1) := by decide +kernel
theorem dX12_result_198 : decode cX12_result 198 = .ok (.getfield 242, 3) := by decide +kernel
theorem dX12_result_201 : decode cX12_result 201 = .ok (.iload 4, 2) := by decide +kernel
theorem dX12_result_203 : decode cX12_result 203 = .ok (.iaload, 1) := by decide +kernel
theorem dX12_result_204 : decode cX12_result 204 = .ok (.ireturn, 1) := by decide +kernel
theorem dX12_logged_0 : decode cX12_logged 0 = .ok (.aload_n 0, 1) := by decide +kernel
theorem dX12_logged_1 : decode cX12_logged 1 = .ok (.aload_n 0, 1) := by decide +kernel
theorem dX12_logged_2 : decode cX12_logged 2 = .ok (.getfield 595, 3) := by decide +kernel
theorem dX12_logged_5 : decode cX12_logged 5 = .ok (.invokevirtual 604, 3) := by decide +kernel
theorem dX12_logged_8 : decode cX12_logged 8 = .ok (.ireturn, 1) := by decide +kernel
theorem dX12_log_0 : decode cX12_log 0 = .ok (.aload_n 0, 1) := by decide +kernel
theorem dX12_log_1 : decode cX12_log 1 = .ok (.iload_n 1, 1) := by decide +kernel
theorem dX12_log_2 : decode cX12_log 2 = .ok (.iconst 0, 1) := by decide +kernel
theorem dX12_log_3 : decode cX12_log 3 = .ok (.aload_n 0, 1) := by decide +kernel
theorem dX12_log_4 : decode cX12_log 4 = .ok (.getfield 595, 3) := by decide +kernel
theorem dX12_log_7 : decode cX12_log 7 = .ok (.iconst 1, 1) := by decide +kernel
theorem dX12_log_8 : decode cX12_log 8 = .ok (.isub, 1) := by decide +kernel
theorem dX12_log_9 : decode cX12_log 9 = .ok (.invokestatic 278, 3) := by decide +kernel
theorem dX12_log_12 : decode cX12_log 12 = .ok (.iconst 1, 1) := by decide +kernel
theorem dX12_log_13 : decode cX12_log 13 = .ok (.iconst 1, 1) := by decide +kernel
theorem dX12_log_14 : decode cX12_log 14 = .ok (.invokevirtual 298, 3) := by decide +kernel
theorem dX12_log_17 : decode cX12_log 17 = .ok (.ifCond .eq 12, 3) := by decide +kernel
theorem dX12_log_20 : decode cX12_log 20 = .ok (.aload_n 0, 1) := by decide +kernel
theorem dX12_log_21 : decode cX12_log 21 = .ok (.getfield 248, 3) := by decide +kernel
theorem dX12_log_24 : decode cX12_log 24 = .ok (.iload_n 1, 1) := by decide +kernel
theorem dX12_log_25 : decode cX12_log 25 = .ok (.iaload, 1) := by decide +kernel
theorem dX12_log_26 : decode cX12_log 26 = .ok (.goto 4, 3) := by decide +kernel
theorem dX12_log_29 : decode cX12_log 29 = .ok (.iconst 0, 1) := by decide +kernel
theorem dX12_log_30 : decode cX12_log 30 = .ok (.ireturn, 1) := by decide +kernel
theorem dX12_total_0 : decode cX12_total 0 = .ok (.aload_n 0, 1) := by decide +kernel
theorem dX12_total_1 : decode cX12_total 1 = .ok (.aload_n 0, 1) := by decide +kernel
theorem dX12_total_2 : decode cX12_total 2 = .ok (.getfield 598, 3) := by decide +kernel
theorem dX12_total_5 : decode cX12_total 5 = .ok (.invokevirtual 604, 3) := by decide +kernel
theorem dX12_total_8 : decode cX12_total 8 = .ok (.ireturn, 1) := by decide +kernel
theorem dX12_dropped_0 : decode cX12_dropped 0 = .ok (.aload_n 0, 1) := by decide +kernel
theorem dX12_dropped_1 : decode cX12_dropped 1 = .ok (.aload_n 0, 1) := by decide +kernel
theorem dX12_dropped_2 : decode cX12_dropped 2 = .ok (.getfield 601, 3) := by decide +kernel
theorem dX12_dropped_5 : decode cX12_dropped 5 = .ok (.invokevirtual 604, 3) := by decide +kernel
theorem dX12_dropped_8 : decode cX12_dropped 8 = .ok (.ireturn, 1) := by decide +kernel
theorem dX12_tellsOf_0 : decode cX12_tellsOf 0 = .ok (.aload_n 0, 1) := by decide +kernel
theorem dX12_tellsOf_1 : decode cX12_tellsOf 1 = .ok (.getfield 251, 3) := by decide +kernel
theorem dX12_tellsOf_4 : decode cX12_tellsOf 4 = .ok (.aload_n 0, 1) := by decide +kernel
theorem dX12_tellsOf_5 : decode cX12_tellsOf 5 = .ok (.getfield 607, 3) := by decide +kernel
theorem dX12_tellsOf_8 : decode cX12_tellsOf 8 = .ok (.iload_n 1, 1) := by decide +kernel
theorem dX12_tellsOf_9 : decode cX12_tellsOf 9 = .ok (.iastore, 1) := by decide +kernel
theorem dX12_tellsOf_10 : decode cX12_tellsOf 10 = .ok (.aload_n 0, 1) := by decide +kernel
theorem dX12_tellsOf_11 : decode cX12_tellsOf 11 = .ok (.dup, 1) := by decide +kernel
theorem dX12_tellsOf_12 : decode cX12_tellsOf 12 = .ok (.getfield 607, 3) := by decide +kernel
theorem dX12_tellsOf_15 : decode cX12_tellsOf 15 = .ok (.iconst 1, 1) := by decide +kernel
theorem dX12_tellsOf_16 : decode cX12_tellsOf 16 = .ok (.iadd, 1) := by decide +kernel
theorem dX12_tellsOf_17 : decode cX12_tellsOf 17 = .ok (.putfield 607, 3) := by decide +kernel
theorem dX12_tellsOf_20 : decode cX12_tellsOf 20 = .ok (.return_, 1) := by decide +kernel
theorem dX12_tellsFull_0 : decode cX12_tellsFull 0 = .ok (.aload_n 0, 1) := by decide +kernel
theorem dX12_tellsFull_1 : decode cX12_tellsFull 1 = .ok (.iconst 1, 1) := by decide +kernel
theorem dX12_tellsFull_2 : decode cX12_tellsFull 2 = .ok (.putfield 354, 3) := by decide +kernel
theorem dX12_tellsFull_5 : decode cX12_tellsFull 5 = .ok (.aload_n 0, 1) := by decide +kernel
theorem dX12_tellsFull_6 : decode cX12_tellsFull 6 = .ok (.getfield 99, 3) := by decide +kernel
theorem dX12_tellsFull_9 : decode cX12_tellsFull 9 = .ok (.iconst 0, 1) := by decide +kernel
theorem dX12_tellsFull_10 : decode cX12_tellsFull 10 = .ok (.iload_n 1, 1) := by decide +kernel
theorem dX12_tellsFull_11 : decode cX12_tellsFull 11 = .ok (.iastore, 1) := by decide +kernel
theorem dX12_tellsFull_12 : decode cX12_tellsFull 12 = .ok (.aload_n 0, 1) := by decide +kernel
theorem dX12_tellsFull_13 : decode cX12_tellsFull 13 = .ok (.getfield 354, 3) := by decide +kernel
theorem dX12_tellsFull_16 : decode cX12_tellsFull 16 = .ok (.ifCond .le 131, 3) := by decide +kernel
theorem dX12_tellsFull_19 : decode cX12_tellsFull 19 = .ok (.aload_n 0, 1) := by decide +kernel
theorem dX12_tellsFull_20 : decode cX12_tellsFull 20 = .ok (.dup, 1) := by decide +kernel
theorem dX12_tellsFull_21 : decode cX12_tellsFull 21 = .ok (.getfield 354, 3) := by decide +kernel
theorem dX12_tellsFull_24 : decode cX12_tellsFull 24 = .ok (.iconst 1, 1) := by decide +kernel
theorem dX12_tellsFull_25 : decode cX12_tellsFull 25 = .ok (.isub, 1) := by decide +kernel
theorem dX12_tellsFull_26 : decode cX12_tellsFull 26 = .ok (.putfield 354, 3) := by decide +kernel
theorem dX12_tellsFull_29 : decode cX12_tellsFull 29 = .ok (.aload_n 0, 1) := by decide +kernel
theorem dX12_tellsFull_30 : decode cX12_tellsFull 30 = .ok (.getfield 99, 3) := by decide +kernel
theorem dX12_tellsFull_33 : decode cX12_tellsFull 33 = .ok (.aload_n 0, 1) := by decide +kernel
theorem dX12_tellsFull_34 : decode cX12_tellsFull 34 = .ok (.getfield 354, 3) := by decide +kernel
theorem dX12_tellsFull_37 : decode cX12_tellsFull 37 = .ok (.iaload, 1) := by decide +kernel
theorem dX12_tellsFull_38 : decode cX12_tellsFull 38 = .ok (.istore_n 2, 1) := by decide +kernel
theorem dX12_tellsFull_39 : decode cX12_tellsFull 39 = .ok (.aload_n 0, 1) := by decide +kernel
theorem dX12_tellsFull_40 : decode cX12_tellsFull 40 = .ok (.aload_n 0, 1) := by decide +kernel
theorem dX12_tellsFull_41 : decode cX12_tellsFull 41 = .ok (.getfield 75, 3) := by decide +kernel
theorem dX12_tellsFull_44 : decode cX12_tellsFull 44 = .ok (.iload_n 2, 1) := by decide +kernel
theorem dX12_tellsFull_45 : decode cX12_tellsFull 45 = .ok (.iaload, 1) := by decide +kernel
theorem dX12_tellsFull_46 : decode cX12_tellsFull 46 = .ok (.iconst 2, 1) := by decide +kernel
theorem dX12_tellsFull_47 : decode cX12_tellsFull 47 = .ok (.if_icmp .ne 15, 3) := by decide +kernel
theorem dX12_tellsFull_50 : decode cX12_tellsFull 50 = .ok (.bipush 10, 2) := by decide +kernel
theorem dX12_tellsFull_52 : decode cX12_tellsFull 52 = .ok (.aload_n 0, 1) := by decide +kernel
theorem dX12_tellsFull_53 : decode cX12_tellsFull 53 = .ok (.getfield 78, 3) := by decide +kernel
theorem dX12_tellsFull_56 : decode cX12_tellsFull 56 = .ok (.iload_n 2, 1) := by decide +kernel
theorem dX12_tellsFull_57 : decode cX12_tellsFull 57 = .ok (.iaload, 1) := by decide +kernel
theorem dX12_tellsFull_58 : decode cX12_tellsFull 58 = .ok (.iadd, 1) := by decide +kernel
theorem dX12_tellsFull_59 : decode cX12_tellsFull 59 = .ok (.goto 30, 3) := by decide +kernel
theorem dX12_tellsFull_62 : decode cX12_tellsFull 62 = .ok (.aload_n 0, 1) := by decide +kernel
theorem dX12_tellsFull_63 : decode cX12_tellsFull 63 = .ok (.getfield 75, 3) := by decide +kernel
theorem dX12_tellsFull_66 : decode cX12_tellsFull 66 = .ok (.iload_n 2, 1) := by decide +kernel
theorem dX12_tellsFull_67 : decode cX12_tellsFull 67 = .ok (.iaload, 1) := by decide +kernel
theorem dX12_tellsFull_68 : decode cX12_tellsFull 68 = .ok (.iconst 1, 1) := by decide +kernel
theorem dX12_tellsFull_69 : decode cX12_tellsFull 69 = .ok (.if_icmp .ne 14, 3) := by decide +kernel
theorem dX12_tellsFull_72 : decode cX12_tellsFull 72 = .ok (.iconst 4, 1) := by decide +kernel
theorem dX12_tellsFull_73 : decode cX12_tellsFull 73 = .ok (.aload_n 0, 1) := by decide +kernel
theorem dX12_tellsFull_74 : decode cX12_tellsFull 74 = .ok (.getfield 78, 3) := by decide +kernel
theorem dX12_tellsFull_77 : decode cX12_tellsFull 77 = .ok (.iload_n 2, 1) := by decide +kernel
theorem dX12_tellsFull_78 : decode cX12_tellsFull 78 = .ok (.iaload, 1) := by decide +kernel
theorem dX12_tellsFull_79 : decode cX12_tellsFull 79 = .ok (.iadd, 1) := by decide +kernel
theorem dX12_tellsFull_80 : decode cX12_tellsFull 80 = .ok (.goto 9, 3) := by decide +kernel
theorem dX12_tellsFull_83 : decode cX12_tellsFull 83 = .ok (.aload_n 0, 1) := by decide +kernel
theorem dX12_tellsFull_84 : decode cX12_tellsFull 84 = .ok (.getfield 75, 3) := by decide +kernel
theorem dX12_tellsFull_87 : decode cX12_tellsFull 87 = .ok (.iload_n 2, 1) := by decide +kernel
theorem dX12_tellsFull_88 : decode cX12_tellsFull 88 = .ok (.iaload, 1) := by decide +kernel
theorem dX12_tellsFull_89 : decode cX12_tellsFull 89 = .ok (.invokevirtual 610, 3) := by decide +kernel
theorem dX12_tellsFull_92 : decode cX12_tellsFull 92 = .ok (.aload_n 0, 1) := by decide +kernel
theorem dX12_tellsFull_93 : decode cX12_tellsFull 93 = .ok (.getfield 75, 3) := by decide +kernel
theorem dX12_tellsFull_96 : decode cX12_tellsFull 96 = .ok (.iload_n 2, 1) := by decide +kernel
theorem dX12_tellsFull_97 : decode cX12_tellsFull 97 = .ok (.iaload, 1) := by decide +kernel
theorem dX12_tellsFull_98 : decode cX12_tellsFull 98 = .ok (.iconst 3, 1) := by decide +kernel
theorem dX12_tellsFull_99 : decode cX12_tellsFull 99 = .ok (.if_icmp .ne 45, 3) := by decide +kernel
theorem dX12_tellsFull_102 : decode cX12_tellsFull 102 = .ok (.aload_n 0, 1) := by decide +kernel
theorem dX12_tellsFull_103 : decode cX12_tellsFull 103 = .ok (.getfield 99, 3) := by decide +kernel
theorem dX12_tellsFull_106 : decode cX12_tellsFull 106 = .ok (.aload_n 0, 1) := by decide +kernel
theorem dX12_tellsFull_107 : decode cX12_tellsFull 107 = .ok (.getfield 354, 3) := by decide +kernel
theorem dX12_tellsFull_110 : decode cX12_tellsFull 110 = .ok (.aload_n 0, 1) := by decide +kernel
theorem dX12_tellsFull_111 : decode cX12_tellsFull 111 = .ok (.getfield 81, 3) := by decide +kernel
theorem dX12_tellsFull_114 : decode cX12_tellsFull 114 = .ok (.iload_n 2, 1) := by decide +kernel
theorem dX12_tellsFull_115 : decode cX12_tellsFull 115 = .ok (.iaload, 1) := by decide +kernel
theorem dX12_tellsFull_116 : decode cX12_tellsFull 116 = .ok (.iastore, 1) := by decide +kernel
theorem dX12_tellsFull_117 : decode cX12_tellsFull 117 = .ok (.aload_n 0, 1) := by decide +kernel
theorem dX12_tellsFull_118 : decode cX12_tellsFull 118 = .ok (.getfield 99, 3) := by decide +kernel
theorem dX12_tellsFull_121 : decode cX12_tellsFull 121 = .ok (.aload_n 0, 1) := by decide +kernel
theorem dX12_tellsFull_122 : decode cX12_tellsFull 122 = .ok (.getfield 354, 3) := by decide +kernel
theorem dX12_tellsFull_125 : decode cX12_tellsFull 125 = .ok (.iconst 1, 1) := by decide +kernel
theorem dX12_tellsFull_126 : decode cX12_tellsFull 126 = .ok (.iadd, 1) := by decide +kernel
theorem dX12_tellsFull_127 : decode cX12_tellsFull 127 = .ok (.aload_n 0, 1) := by decide +kernel
theorem dX12_tellsFull_128 : decode cX12_tellsFull 128 = .ok (.getfield 78, 3) := by decide +kernel
theorem dX12_tellsFull_131 : decode cX12_tellsFull 131 = .ok (.iload_n 2, 1) := by decide +kernel
theorem dX12_tellsFull_132 : decode cX12_tellsFull 132 = .ok (.iaload, 1) := by decide +kernel
theorem dX12_tellsFull_133 : decode cX12_tellsFull 133 = .ok (.iastore, 1) := by decide +kernel
theorem dX12_tellsFull_134 : decode cX12_tellsFull 134 = .ok (.aload_n 0, 1) := by decide +kernel
theorem dX12_tellsFull_135 : decode cX12_tellsFull 135 = .ok (.dup, 1) := by decide +kernel
theorem dX12_tellsFull_136 : decode cX12_tellsFull 136 = .ok (.getfield 354, 3) := by decide +kernel
theorem dX12_tellsFull_139 : decode cX12_tellsFull 139 = .ok (.iconst 2, 1) := by decide +kernel
theorem dX12_tellsFull_140 : decode cX12_tellsFull 140 = .ok (.iadd, 1) := by decide +kernel
theorem dX12_tellsFull_141 : decode cX12_tellsFull 141 = .ok (.putfield 354, 3) := by decide +kernel
theorem dX12_tellsFull_144 : decode cX12_tellsFull 144 = .ok (.goto (-132), 3) := by decide +kernel
theorem dX12_tellsFull_147 : decode cX12_tellsFull 147 = .ok (.return_, 1) := by decide +kernel
theorem dX12_tellsMade_0 : decode cX12_tellsMade 0 = .ok (.iconst 1, 1) := by decide +kernel
theorem dX12_tellsMade_1 : decode cX12_tellsMade 1 = .ok (.istore_n 2, 1) := by decide +kernel
theorem dX12_tellsMade_2 : decode cX12_tellsMade 2 = .ok (.aload_n 0, 1) := by decide +kernel
theorem dX12_tellsMade_3 : decode cX12_tellsMade 3 = .ok (.getfield 160, 3) := by decide +kernel
theorem dX12_tellsMade_6 : decode cX12_tellsMade 6 = .ok (.iconst 0, 1) := by decide +kernel
theorem dX12_tellsMade_7 : decode cX12_tellsMade 7 = .ok (.iload_n 1, 1) := by decide +kernel
theorem dX12_tellsMade_8 : decode cX12_tellsMade 8 = .ok (.iastore, 1) := by decide +kernel
theorem dX12_tellsMade_9 : decode cX12_tellsMade 9 = .ok (.iload_n 2, 1) := by decide +kernel
theorem dX12_tellsMade_10 : decode cX12_tellsMade 10 = .ok (.ifCond .le 89, 3) := by decide +kernel
theorem dX12_tellsMade_13 : decode cX12_tellsMade 13 = .ok (.iinc 2 (-1), 3) := by decide +kernel
theorem dX12_tellsMade_16 : decode cX12_tellsMade 16 = .ok (.aload_n 0, 1) := by decide +kernel
theorem dX12_tellsMade_17 : decode cX12_tellsMade 17 = .ok (.getfield 160, 3) := by decide +kernel
theorem dX12_tellsMade_20 : decode cX12_tellsMade 20 = .ok (.iload_n 2, 1) := by decide +kernel
theorem dX12_tellsMade_21 : decode cX12_tellsMade 21 = .ok (.iaload, 1) := by decide +kernel
theorem dX12_tellsMade_22 : decode cX12_tellsMade 22 = .ok (.istore_n 3, 1) := by decide +kernel
theorem dX12_tellsMade_23 : decode cX12_tellsMade 23 = .ok (.aload_n 0, 1) := by decide +kernel
theorem dX12_tellsMade_24 : decode cX12_tellsMade 24 = .ok (.aload_n 0, 1) := by decide +kernel
theorem dX12_tellsMade_25 : decode cX12_tellsMade 25 = .ok (.getfield 7, 3) := by decide +kernel
theorem dX12_tellsMade_28 : decode cX12_tellsMade 28 = .ok (.iload_n 3, 1) := by decide +kernel
theorem dX12_tellsMade_29 : decode cX12_tellsMade 29 = .ok (.iaload, 1) := by decide +kernel
theorem dX12_tellsMade_30 : decode cX12_tellsMade 30 = .ok (.invokevirtual 610, 3) := by decide +kernel
theorem dX12_tellsMade_33 : decode cX12_tellsMade 33 = .ok (.aload_n 0, 1) := by decide +kernel
theorem dX12_tellsMade_34 : decode cX12_tellsMade 34 = .ok (.aload_n 0, 1) := by decide +kernel
theorem dX12_tellsMade_35 : decode cX12_tellsMade 35 = .ok (.getfield 7, 3) := by decide +kernel
theorem dX12_tellsMade_38 : decode cX12_tellsMade 38 = .ok (.iload_n 3, 1) := by decide +kernel
theorem dX12_tellsMade_39 : decode cX12_tellsMade 39 = .ok (.iaload, 1) := by decide +kernel
theorem dX12_tellsMade_40 : decode cX12_tellsMade 40 = .ok (.iconst 2, 1) := by decide +kernel
theorem dX12_tellsMade_41 : decode cX12_tellsMade 41 = .ok (.if_icmp .ne 12, 3) := by decide +kernel
theorem dX12_tellsMade_44 : decode cX12_tellsMade 44 = .ok (.aload_n 0, 1) := by decide +kernel
theorem dX12_tellsMade_45 : decode cX12_tellsMade 45 = .ok (.getfield 13, 3) := by decide +kernel
theorem dX12_tellsMade_48 : decode cX12_tellsMade 48 = .ok (.iload_n 3, 1) := by decide +kernel
theorem dX12_tellsMade_49 : decode cX12_tellsMade 49 = .ok (.iaload, 1) := by decide +kernel
theorem dX12_tellsMade_50 : decode cX12_tellsMade 50 = .ok (.goto 4, 3) := by decide +kernel
theorem dX12_tellsMade_53 : decode cX12_tellsMade 53 = .ok (.iconst 0, 1) := by decide +kernel
theorem dX12_tellsMade_54 : decode cX12_tellsMade 54 = .ok (.invokevirtual 610, 3) := by decide +kernel
theorem dX12_tellsMade_57 : decode cX12_tellsMade 57 = .ok (.aload_n 0, 1) := by decide +kernel
theorem dX12_tellsMade_58 : decode cX12_tellsMade 58 = .ok (.getfield 7, 3) := by decide +kernel
theorem dX12_tellsMade_61 : decode cX12_tellsMade 61 = .ok (.iload_n 3, 1) := by decide +kernel
theorem dX12_tellsMade_62 : decode cX12_tellsMade 62 = .ok (.iaload, 1) := by decide +kernel
theorem dX12_tellsMade_63 : decode cX12_tellsMade 63 = .ok (.iconst 1, 1) := by decide +kernel
theorem dX12_tellsMade_64 : decode cX12_tellsMade 64 = .ok (.if_icmp .ne 32, 3) := by decide +kernel
theorem dX12_tellsMade_67 : decode cX12_tellsMade 67 = .ok (.aload_n 0, 1) := by decide +kernel
theorem dX12_tellsMade_68 : decode cX12_tellsMade 68 = .ok (.getfield 160, 3) := by decide +kernel
theorem dX12_tellsMade_71 : decode cX12_tellsMade 71 = .ok (.iload_n 2, 1) := by decide +kernel
theorem dX12_tellsMade_72 : decode cX12_tellsMade 72 = .ok (.aload_n 0, 1) := by decide +kernel
theorem dX12_tellsMade_73 : decode cX12_tellsMade 73 = .ok (.getfield 16, 3) := by decide +kernel
theorem dX12_tellsMade_76 : decode cX12_tellsMade 76 = .ok (.iload_n 3, 1) := by decide +kernel
theorem dX12_tellsMade_77 : decode cX12_tellsMade 77 = .ok (.iaload, 1) := by decide +kernel
theorem dX12_tellsMade_78 : decode cX12_tellsMade 78 = .ok (.iastore, 1) := by decide +kernel
theorem dX12_tellsMade_79 : decode cX12_tellsMade 79 = .ok (.aload_n 0, 1) := by decide +kernel
theorem dX12_tellsMade_80 : decode cX12_tellsMade 80 = .ok (.getfield 160, 3) := by decide +kernel
theorem dX12_tellsMade_83 : decode cX12_tellsMade 83 = .ok (.iload_n 2, 1) := by decide +kernel
theorem dX12_tellsMade_84 : decode cX12_tellsMade 84 = .ok (.iconst 1, 1) := by decide +kernel
theorem dX12_tellsMade_85 : decode cX12_tellsMade 85 = .ok (.iadd, 1) := by decide +kernel
theorem dX12_tellsMade_86 : decode cX12_tellsMade 86 = .ok (.aload_n 0, 1) := by decide +kernel
theorem dX12_tellsMade_87 : decode cX12_tellsMade 87 = .ok (.getfield 13, 3) := by decide +kernel
theorem dX12_tellsMade_90 : decode cX12_tellsMade 90 = .ok (.iload_n 3, 1) := by decide +kernel
theorem dX12_tellsMade_91 : decode cX12_tellsMade 91 = .ok (.iaload, 1) := by decide +kernel
theorem dX12_tellsMade_92 : decode cX12_tellsMade 92 = .ok (.iastore, 1) := by decide +kernel
theorem dX12_tellsMade_93 : decode cX12_tellsMade 93 = .ok (.iinc 2 2, 3) := by decide +kernel
theorem dX12_tellsMade_96 : decode cX12_tellsMade 96 = .ok (.goto (-87), 3) := by decide +kernel
theorem dX12_tellsMade_99 : decode cX12_tellsMade 99 = .ok (.return_, 1) := by decide +kernel
theorem dX12_tellsExpression_0 : decode cX12_tellsExpression 0 = .ok (.iconst 1, 1) := by decide +kernel
theorem dX12_tellsExpression_1 : decode cX12_tellsExpression 1 = .ok (.istore_n 2, 1) := by decide +kernel
theorem dX12_tellsExpression_2 : decode cX12_tellsExpression 2 = .ok (.aload_n 0, 1) := by decide +kernel
theorem dX12_tellsExpression_3 : decode cX12_tellsExpression 3 = .ok (.getfield 160, 3) := by decide +kernel
theorem dX12_tellsExpression_6 : decode cX12_tellsExpression 6 = .ok (.iconst 0, 1) := by decide +kernel
theorem dX12_tellsExpression_7 : decode cX12_tellsExpression 7 = .ok (.iload_n 1, 1) := by decide +kernel
theorem dX12_tellsExpression_8 : decode cX12_tellsExpression 8 = .ok (.iastore, 1) := by decide +kernel
theorem dX12_tellsExpression_9 : decode cX12_tellsExpression 9 = .ok (.iload_n 2, 1) := by decide +kernel
theorem dX12_tellsExpression_10 : decode cX12_tellsExpression 10 = .ok (.ifCond .le 117, 3) := by decide +kernel
theorem dX12_tellsExpression_13 : decode cX12_tellsExpression 13 = .ok (.iinc 2 (-1), 3) := by decide +kernel
theorem dX12_tellsExpression_16 : decode cX12_tellsExpression 16 = .ok (.aload_n 0, 1) := by decide +kernel
theorem dX12_tellsExpression_17 : decode cX12_tellsExpression 17 = .ok (.getfield 160, 3) := by decide +kernel
theorem dX12_tellsExpression_20 : decode cX12_tellsExpression 20 = .ok (.iload_n 2, 1) := by decide +kernel
theorem dX12_tellsExpression_21 : decode cX12_tellsExpression 21 = .ok (.iaload, 1) := by decide +kernel
theorem dX12_tellsExpression_22 : decode cX12_tellsExpression 22 = .ok (.istore_n 3, 1) := by decide +kernel
theorem dX12_tellsExpression_23 : decode cX12_tellsExpression 23 = .ok (.aload_n 0, 1) := by decide +kernel
theorem dX12_tellsExpression_24 : decode cX12_tellsExpression 24 = .ok (.getfield 25, 3) := by decide +kernel
theorem dX12_tellsExpression_27 : decode cX12_tellsExpression 27 = .ok (.iload_n 3, 1) := by decide +kernel
theorem dX12_tellsExpression_28 : decode cX12_tellsExpression 28 = .ok (.iaload, 1) := by decide +kernel
theorem dX12_tellsExpression_29 : decode cX12_tellsExpression 29 = .ok (.invokestatic 309, 3) := by decide +kernel
theorem dX12_tellsExpression_32 : decode cX12_tellsExpression 32 = .ok (.istore 4, 2) := by decide +kernel
theorem dX12_tellsExpression_34 : decode cX12_tellsExpression 34 = .ok (.aload_n 0, 1) := by decide +kernel
theorem dX12_tellsExpression_35 : decode cX12_tellsExpression 35 = .ok (.aload_n 0, 1) := by decide +kernel
theorem dX12_tellsExpression_36 : decode cX12_tellsExpression 36 = .ok (.getfield 25, 3) := by decide +kernel
theorem dX12_tellsExpression_39 : decode cX12_tellsExpression 39 = .ok (.iload_n 3, 1) := by decide +kernel
theorem dX12_tellsExpression_40 : decode cX12_tellsExpression 40 = .ok (.iaload, 1) := by decide +kernel
theorem dX12_tellsExpression_41 : decode cX12_tellsExpression 41 = .ok (.invokevirtual 610, 3) := by decide +kernel
theorem dX12_tellsExpression_44 : decode cX12_tellsExpression 44 = .ok (.aload_n 0, 1) := by decide +kernel
theorem dX12_tellsExpression_45 : decode cX12_tellsExpression 45 = .ok (.iload 4, 2) := by decide +kernel
theorem dX12_tellsExpression_47 : decode cX12_tellsExpression 47 = .ok (.ifCond .ne 12, 3) := by decide +kernel
theorem dX12_tellsExpression_50 : decode cX12_tellsExpression 50 = .ok (.aload_n 0, 1) := by decide +kernel
theorem dX12_tellsExpression_51 : decode cX12_tellsExpression 51 = .ok (.getfield 28, 3) := by decide +kernel
theorem dX12_tellsExpression_54 : decode cX12_tellsExpression 54 = .ok (.iload_n 3, 1) := by decide +kernel
theorem dX12_tellsExpression_55 : decode cX12_tellsExpression 55 = .ok (.iaload, 1) := by decide +kernel
theorem dX12_tellsExpression_56 : decode cX12_tellsExpression 56 = .ok (.goto 4, 3) := by decide +kernel
theorem dX12_tellsExpression_59 : decode cX12_tellsExpression 59 = .ok (.iconst 0, 1) := by decide +kernel
theorem dX12_tellsExpression_60 : decode cX12_tellsExpression 60 = .ok (.invokevirtual 610, 3) := by decide +kernel
theorem dX12_tellsExpression_63 : decode cX12_tellsExpression 63 = .ok (.iload 4, 2) := by decide +kernel
theorem dX12_tellsExpression_65 : decode cX12_tellsExpression 65 = .ok (.iconst 1, 1) := by decide +kernel
theorem dX12_tellsExpression_66 : decode cX12_tellsExpression 66 = .ok (.isub, 1) := by decide +kernel
theorem dX12_tellsExpression_67 : decode cX12_tellsExpression 67 = .ok (.istore 5, 2) := by decide +kernel
theorem dX12_tellsExpression_69 : decode cX12_tellsExpression 69 = .ok (.iload 5, 2) := by decide +kernel
theorem dX12_tellsExpression_71 : decode cX12_tellsExpression 71 = .ok (.ifCond .lt 53, 3) := by decide +kernel
theorem dX12_tellsExpression_74 : decode cX12_tellsExpression 74 = .ok (.aload_n 0, 1) := by decide +kernel
theorem dX12_tellsExpression_75 : decode cX12_tellsExpression 75 = .ok (.getfield 160, 3) := by decide +kernel
theorem dX12_tellsExpression_78 : decode cX12_tellsExpression 78 = .ok (.iload_n 2, 1) := by decide +kernel
theorem dX12_tellsExpression_79 : decode cX12_tellsExpression 79 = .ok (.iload 5, 2) := by decide +kernel
theorem dX12_tellsExpression_81 : decode cX12_tellsExpression 81 = .ok (.ifCond .ne 12, 3) := by decide +kernel
theorem dX12_tellsExpression_84 : decode cX12_tellsExpression 84 = .ok (.aload_n 0, 1) := by decide +kernel
theorem dX12_tellsExpression_85 : decode cX12_tellsExpression 85 = .ok (.getfield 28, 3) := by decide +kernel
theorem dX12_tellsExpression_88 : decode cX12_tellsExpression 88 = .ok (.iload_n 3, 1) := by decide +kernel
theorem dX12_tellsExpression_89 : decode cX12_tellsExpression 89 = .ok (.iaload, 1) := by decide +kernel
theorem dX12_tellsExpression_90 : decode cX12_tellsExpression 90 = .ok (.goto 24, 3) := by decide +kernel
theorem dX12_tellsExpression_93 : decode cX12_tellsExpression 93 = .ok (.iload 5, 2) := by decide +kernel
theorem dX12_tellsExpression_95 : decode cX12_tellsExpression 95 = .ok (.iconst 1, 1) := by decide +kernel
theorem dX12_tellsExpression_96 : decode cX12_tellsExpression 96 = .ok (.if_icmp .ne 12, 3) := by decide +kernel
theorem dX12_tellsExpression_99 : decode cX12_tellsExpression 99 = .ok (.aload_n 0, 1) := by decide +kernel
theorem dX12_tellsExpression_100 : decode cX12_tellsExpression 100 = .ok (.getfield 31, 3) := by decide +kernel
theorem dX12_tellsExpression_103 : decode cX12_tellsExpression 103 = .ok (.iload_n 3, 1) := by decide +kernel
theorem dX12_tellsExpression_104 : decode cX12_tellsExpression 104 = .ok (.iaload, 1) := by decide +kernel
theorem dX12_tellsExpression_105 : decode cX12_tellsExpression 105 = .ok (.goto 9, 3) := by decide +kernel
theorem dX12_tellsExpression_108 : decode cX12_tellsExpression 108 = .ok (.aload_n 0, 1) := by decide +kernel
theorem dX12_tellsExpression_109 : decode cX12_tellsExpression 109 = .ok (.getfield 34, 3) := by decide +kernel
theorem dX12_tellsExpression_112 : decode cX12_tellsExpression 112 = .ok (.iload_n 3, 1) := by decide +kernel
theorem dX12_tellsExpression_113 : decode cX12_tellsExpression 113 = .ok (.iaload, 1) := by decide +kernel
theorem dX12_tellsExpression_114 : decode cX12_tellsExpression 114 = .ok (.iastore, 1) := by decide +kernel
theorem dX12_tellsExpression_115 : decode cX12_tellsExpression 115 = .ok (.iinc 2 1, 3) := by decide +kernel
theorem dX12_tellsExpression_118 : decode cX12_tellsExpression 118 = .ok (.iinc 5 (-1), 3) := by decide +kernel
theorem dX12_tellsExpression_121 : decode cX12_tellsExpression 121 = .ok (.goto (-52), 3) := by decide +kernel
theorem dX12_tellsExpression_124 : decode cX12_tellsExpression 124 = .ok (.goto (-115), 3) := by decide +kernel
theorem dX12_tellsExpression_127 : decode cX12_tellsExpression 127 = .ok (.return_, 1) := by decide +kernel
theorem dX12_tellsVersion_0 : decode cX12_tellsVersion 0 = .ok (.aload_n 0, 1) := by decide +kernel
theorem dX12_tellsVersion_1 : decode cX12_tellsVersion 1 = .ok (.iload_n 1, 1) := by decide +kernel
theorem dX12_tellsVersion_2 : decode cX12_tellsVersion 2 = .ok (.invokevirtual 610, 3) := by decide +kernel
theorem dX12_tellsVersion_5 : decode cX12_tellsVersion 5 = .ok (.iconst 0, 1) := by decide +kernel
theorem dX12_tellsVersion_6 : decode cX12_tellsVersion 6 = .ok (.istore_n 2, 1) := by decide +kernel
theorem dX12_tellsVersion_7 : decode cX12_tellsVersion 7 = .ok (.iload_n 2, 1) := by decide +kernel
theorem dX12_tellsVersion_8 : decode cX12_tellsVersion 8 = .ok (.bipush 6, 2) := by decide +kernel
theorem dX12_tellsVersion_10 : decode cX12_tellsVersion 10 = .ok (.if_icmp .ge 43, 3) := by decide +kernel
theorem dX12_tellsVersion_13 : decode cX12_tellsVersion 13 = .ok (.aload_n 0, 1) := by decide +kernel
theorem dX12_tellsVersion_14 : decode cX12_tellsVersion 14 = .ok (.getfield 43, 3) := by decide +kernel
theorem dX12_tellsVersion_17 : decode cX12_tellsVersion 17 = .ok (.bipush 6, 2) := by decide +kernel
theorem dX12_tellsVersion_19 : decode cX12_tellsVersion 19 = .ok (.iload_n 1, 1) := by decide +kernel
theorem dX12_tellsVersion_20 : decode cX12_tellsVersion 20 = .ok (.imul, 1) := by decide +kernel
theorem dX12_tellsVersion_21 : decode cX12_tellsVersion 21 = .ok (.iload_n 2, 1) := by decide +kernel
theorem dX12_tellsVersion_22 : decode cX12_tellsVersion 22 = .ok (.iadd, 1) := by decide +kernel
theorem dX12_tellsVersion_23 : decode cX12_tellsVersion 23 = .ok (.iaload, 1) := by decide +kernel
theorem dX12_tellsVersion_24 : decode cX12_tellsVersion 24 = .ok (.istore_n 3, 1) := by decide +kernel
theorem dX12_tellsVersion_25 : decode cX12_tellsVersion 25 = .ok (.aload_n 0, 1) := by decide +kernel
theorem dX12_tellsVersion_26 : decode cX12_tellsVersion 26 = .ok (.iload_n 3, 1) := by decide +kernel
theorem dX12_tellsVersion_27 : decode cX12_tellsVersion 27 = .ok (.ifCond .ge 7, 3) := by decide +kernel
theorem dX12_tellsVersion_30 : decode cX12_tellsVersion 30 = .ok (.iload_n 3, 1) := by decide +kernel
theorem dX12_tellsVersion_31 : decode cX12_tellsVersion 31 = .ok (.goto 4, 3) := by decide +kernel
theorem dX12_tellsVersion_34 : decode cX12_tellsVersion 34 = .ok (.iconst 0, 1) := by decide +kernel
theorem dX12_tellsVersion_35 : decode cX12_tellsVersion 35 = .ok (.invokevirtual 610, 3) := by decide +kernel
theorem dX12_tellsVersion_38 : decode cX12_tellsVersion 38 = .ok (.iload_n 3, 1) := by decide +kernel
theorem dX12_tellsVersion_39 : decode cX12_tellsVersion 39 = .ok (.ifCond .lt 8, 3) := by decide +kernel
theorem dX12_tellsVersion_42 : decode cX12_tellsVersion 42 = .ok (.aload_n 0, 1) := by decide +kernel
theorem dX12_tellsVersion_43 : decode cX12_tellsVersion 43 = .ok (.iload_n 3, 1) := by decide +kernel
theorem dX12_tellsVersion_44 : decode cX12_tellsVersion 44 = .ok (.invokevirtual 613, 3) := by decide +kernel
theorem dX12_tellsVersion_47 : decode cX12_tellsVersion 47 = .ok (.iinc 2 1, 3) := by decide +kernel
theorem dX12_tellsVersion_50 : decode cX12_tellsVersion 50 = .ok (.goto (-43), 3) := by decide +kernel
theorem dX12_tellsVersion_53 : decode cX12_tellsVersion 53 = .ok (.iconst 0, 1) := by decide +kernel
theorem dX12_tellsVersion_54 : decode cX12_tellsVersion 54 = .ok (.istore_n 2, 1) := by decide +kernel
theorem dX12_tellsVersion_55 : decode cX12_tellsVersion 55 = .ok (.iload_n 2, 1) := by decide +kernel
theorem dX12_tellsVersion_56 : decode cX12_tellsVersion 56 = .ok (.bipush 10, 2) := by decide +kernel
theorem dX12_tellsVersion_58 : decode cX12_tellsVersion 58 = .ok (.if_icmp .ge 99, 3) := by decide +kernel
theorem dX12_tellsVersion_61 : decode cX12_tellsVersion 61 = .ok (.bipush 10, 2) := by decide +kernel
theorem dX12_tellsVersion_63 : decode cX12_tellsVersion 63 = .ok (.iload_n 1, 1) := by decide +kernel
theorem dX12_tellsVersion_64 : decode cX12_tellsVersion 64 = .ok (.imul, 1) := by decide +kernel
theorem dX12_tellsVersion_65 : decode cX12_tellsVersion 65 = .ok (.iload_n 2, 1) := by decide +kernel
theorem dX12_tellsVersion_66 : decode cX12_tellsVersion 66 = .ok (.iadd, 1) := by decide +kernel
theorem dX12_tellsVersion_67 : decode cX12_tellsVersion 67 = .ok (.istore_n 3, 1) := by decide +kernel
theorem dX12_tellsVersion_68 : decode cX12_tellsVersion 68 = .ok (.aload_n 0, 1) := by decide +kernel
theorem dX12_tellsVersion_69 : decode cX12_tellsVersion 69 = .ok (.aload_n 0, 1) := by decide +kernel
theorem dX12_tellsVersion_70 : decode cX12_tellsVersion 70 = .ok (.getfield 46, 3) := by decide +kernel
theorem dX12_tellsVersion_73 : decode cX12_tellsVersion 73 = .ok (.iload_n 3, 1) := by decide +kernel
theorem dX12_tellsVersion_74 : decode cX12_tellsVersion 74 = .ok (.iaload, 1) := by decide +kernel
theorem dX12_tellsVersion_75 : decode cX12_tellsVersion 75 = .ok (.iconst (-1), 1) := by decide +kernel
theorem dX12_tellsVersion_76 : decode cX12_tellsVersion 76 = .ok (.if_icmp .ne 7, 3) := by decide +kernel
theorem dX12_tellsVersion_79 : decode cX12_tellsVersion 79 = .ok (.iconst 0, 1) := by decide +kernel
theorem dX12_tellsVersion_80 : decode cX12_tellsVersion 80 = .ok (.goto 18, 3) := by decide +kernel
theorem dX12_tellsVersion_83 : decode cX12_tellsVersion 83 = .ok (.aload_n 0, 1) := by decide +kernel
theorem dX12_tellsVersion_84 : decode cX12_tellsVersion 84 = .ok (.getfield 49, 3) := by decide +kernel
theorem dX12_tellsVersion_87 : decode cX12_tellsVersion 87 = .ok (.iload_n 3, 1) := by decide +kernel
theorem dX12_tellsVersion_88 : decode cX12_tellsVersion 88 = .ok (.iaload, 1) := by decide +kernel
theorem dX12_tellsVersion_89 : decode cX12_tellsVersion 89 = .ok (.iconst (-1), 1) := by decide +kernel
theorem dX12_tellsVersion_90 : decode cX12_tellsVersion 90 = .ok (.if_icmp .ne 7, 3) := by decide +kernel
theorem dX12_tellsVersion_93 : decode cX12_tellsVersion 93 = .ok (.iconst 1, 1) := by decide +kernel
theorem dX12_tellsVersion_94 : decode cX12_tellsVersion 94 = .ok (.goto 4, 3) := by decide +kernel
theorem dX12_tellsVersion_97 : decode cX12_tellsVersion 97 = .ok (.iconst 2, 1) := by decide +kernel
theorem dX12_tellsVersion_98 : decode cX12_tellsVersion 98 = .ok (.invokevirtual 610, 3) := by decide +kernel
theorem dX12_tellsVersion_101 : decode cX12_tellsVersion 101 = .ok (.aload_n 0, 1) := by decide +kernel
theorem dX12_tellsVersion_102 : decode cX12_tellsVersion 102 = .ok (.getfield 46, 3) := by decide +kernel
theorem dX12_tellsVersion_105 : decode cX12_tellsVersion 105 = .ok (.iload_n 3, 1) := by decide +kernel
theorem dX12_tellsVersion_106 : decode cX12_tellsVersion 106 = .ok (.iaload, 1) := by decide +kernel
theorem dX12_tellsVersion_107 : decode cX12_tellsVersion 107 = .ok (.iconst (-1), 1) := by decide +kernel
theorem dX12_tellsVersion_108 : decode cX12_tellsVersion 108 = .ok (.if_icmp .eq 43, 3) := by decide +kernel
theorem dX12_tellsVersion_111 : decode cX12_tellsVersion 111 = .ok (.aload_n 0, 1) := by decide +kernel
theorem dX12_tellsVersion_112 : decode cX12_tellsVersion 112 = .ok (.aload_n 0, 1) := by decide +kernel
theorem dX12_tellsVersion_113 : decode cX12_tellsVersion 113 = .ok (.getfield 46, 3) := by decide +kernel
theorem dX12_tellsVersion_116 : decode cX12_tellsVersion 116 = .ok (.iload_n 3, 1) := by decide +kernel
theorem dX12_tellsVersion_117 : decode cX12_tellsVersion 117 = .ok (.iaload, 1) := by decide +kernel
theorem dX12_tellsVersion_118 : decode cX12_tellsVersion 118 = .ok (.invokevirtual 613, 3) := by decide +kernel
theorem dX12_tellsVersion_121 : decode cX12_tellsVersion 121 = .ok (.aload_n 0, 1) := by decide +kernel
theorem dX12_tellsVersion_122 : decode cX12_tellsVersion 122 = .ok (.aload_n 0, 1) := by decide +kernel
theorem dX12_tellsVersion_123 : decode cX12_tellsVersion 123 = .ok (.getfield 52, 3) := by decide +kernel
theorem dX12_tellsVersion_126 : decode cX12_tellsVersion 126 = .ok (.iload_n 3, 1) := by decide +kernel
theorem dX12_tellsVersion_127 : decode cX12_tellsVersion 127 = .ok (.iaload, 1) := by decide +kernel
theorem dX12_tellsVersion_128 : decode cX12_tellsVersion 128 = .ok (.invokevirtual 610, 3) := by decide +kernel
theorem dX12_tellsVersion_131 : decode cX12_tellsVersion 131 = .ok (.aload_n 0, 1) := by decide +kernel
theorem dX12_tellsVersion_132 : decode cX12_tellsVersion 132 = .ok (.getfield 49, 3) := by decide +kernel
theorem dX12_tellsVersion_135 : decode cX12_tellsVersion 135 = .ok (.iload_n 3, 1) := by decide +kernel
theorem dX12_tellsVersion_136 : decode cX12_tellsVersion 136 = .ok (.iaload, 1) := by decide +kernel
theorem dX12_tellsVersion_137 : decode cX12_tellsVersion 137 = .ok (.iconst (-1), 1) := by decide +kernel
theorem dX12_tellsVersion_138 : decode cX12_tellsVersion 138 = .ok (.if_icmp .eq 13, 3) := by decide +kernel
theorem dX12_tellsVersion_141 : decode cX12_tellsVersion 141 = .ok (.aload_n 0, 1) := by decide +kernel
theorem dX12_tellsVersion_142 : decode cX12_tellsVersion 142 = .ok (.aload_n 0, 1) := by decide +kernel
theorem dX12_tellsVersion_143 : decode cX12_tellsVersion 143 = .ok (.getfield 49, 3) := by decide +kernel
theorem dX12_tellsVersion_146 : decode cX12_tellsVersion 146 = .ok (.iload_n 3, 1) := by decide +kernel
theorem dX12_tellsVersion_147 : decode cX12_tellsVersion 147 = .ok (.iaload, 1) := by decide +kernel
theorem dX12_tellsVersion_148 : decode cX12_tellsVersion 148 = .ok (.invokevirtual 616, 3) := by decide +kernel
theorem dX12_tellsVersion_151 : decode cX12_tellsVersion 151 = .ok (.iinc 2 1, 3) := by decide +kernel
theorem dX12_tellsVersion_154 : decode cX12_tellsVersion 154 = .ok (.goto (-99), 3) := by decide +kernel
theorem dX12_tellsVersion_157 : decode cX12_tellsVersion 157 = .ok (.return_, 1) := by decide +kernel
theorem dX12_tellsFace_0 : decode cX12_tellsFace 0 = .ok (.aload_n 0, 1) := by decide +kernel
theorem dX12_tellsFace_1 : decode cX12_tellsFace 1 = .ok (.aload_n 0, 1) := by decide +kernel
theorem dX12_tellsFace_2 : decode cX12_tellsFace 2 = .ok (.getfield 139, 3) := by decide +kernel
theorem dX12_tellsFace_5 : decode cX12_tellsFace 5 = .ok (.iload_n 1, 1) := by decide +kernel
theorem dX12_tellsFace_6 : decode cX12_tellsFace 6 = .ok (.iaload, 1) := by decide +kernel
theorem dX12_tellsFace_7 : decode cX12_tellsFace 7 = .ok (.invokevirtual 610, 3) := by decide +kernel
theorem dX12_tellsFace_10 : decode cX12_tellsFace 10 = .ok (.aload_n 0, 1) := by decide +kernel
theorem dX12_tellsFace_11 : decode cX12_tellsFace 11 = .ok (.getfield 139, 3) := by decide +kernel
theorem dX12_tellsFace_14 : decode cX12_tellsFace 14 = .ok (.iload_n 1, 1) := by decide +kernel
theorem dX12_tellsFace_15 : decode cX12_tellsFace 15 = .ok (.iaload, 1) := by decide +kernel
theorem dX12_tellsFace_16 : decode cX12_tellsFace 16 = .ok (.ifCond .eq 4, 3) := by decide +kernel
theorem dX12_tellsFace_19 : decode cX12_tellsFace 19 = .ok (.return_, 1) := by decide +kernel
theorem dX12_tellsFace_20 : decode cX12_tellsFace 20 = .ok (.iconst 0, 1) := by decide +kernel
theorem dX12_tellsFace_21 : decode cX12_tellsFace 21 = .ok (.istore_n 3, 1) := by decide +kernel
theorem dX12_tellsFace_22 : decode cX12_tellsFace 22 = .ok (.iload_n 3, 1) := by decide +kernel
theorem dX12_tellsFace_23 : decode cX12_tellsFace 23 = .ok (.bipush 6, 2) := by decide +kernel
theorem dX12_tellsFace_25 : decode cX12_tellsFace 25 = .ok (.if_icmp .ge 43, 3) := by decide +kernel
theorem dX12_tellsFace_28 : decode cX12_tellsFace 28 = .ok (.aload_n 0, 1) := by decide +kernel
theorem dX12_tellsFace_29 : decode cX12_tellsFace 29 = .ok (.iload_n 1, 1) := by decide +kernel
theorem dX12_tellsFace_30 : decode cX12_tellsFace 30 = .ok (.iload_n 3, 1) := by decide +kernel
theorem dX12_tellsFace_31 : decode cX12_tellsFace 31 = .ok (.invokevirtual 413, 3) := by decide +kernel
theorem dX12_tellsFace_34 : decode cX12_tellsFace 34 = .ok (.istore 4, 2) := by decide +kernel
theorem dX12_tellsFace_36 : decode cX12_tellsFace 36 = .ok (.aload_n 0, 1) := by decide +kernel
theorem dX12_tellsFace_37 : decode cX12_tellsFace 37 = .ok (.iload 4, 2) := by decide +kernel
theorem dX12_tellsFace_39 : decode cX12_tellsFace 39 = .ok (.ifCond .ge 8, 3) := by decide +kernel
theorem dX12_tellsFace_42 : decode cX12_tellsFace 42 = .ok (.iload 4, 2) := by decide +kernel
theorem dX12_tellsFace_44 : decode cX12_tellsFace 44 = .ok (.goto 4, 3) := by decide +kernel
theorem dX12_tellsFace_47 : decode cX12_tellsFace 47 = .ok (.iconst 0, 1) := by decide +kernel
theorem dX12_tellsFace_48 : decode cX12_tellsFace 48 = .ok (.invokevirtual 610, 3) := by decide +kernel
theorem dX12_tellsFace_51 : decode cX12_tellsFace 51 = .ok (.iload 4, 2) := by decide +kernel
theorem dX12_tellsFace_53 : decode cX12_tellsFace 53 = .ok (.ifCond .lt 9, 3) := by decide +kernel
theorem dX12_tellsFace_56 : decode cX12_tellsFace 56 = .ok (.aload_n 0, 1) := by decide +kernel
theorem dX12_tellsFace_57 : decode cX12_tellsFace 57 = .ok (.iload 4, 2) := by decide +kernel
theorem dX12_tellsFace_59 : decode cX12_tellsFace 59 = .ok (.invokevirtual 619, 3) := by decide +kernel
theorem dX12_tellsFace_62 : decode cX12_tellsFace 62 = .ok (.iinc 3 1, 3) := by decide +kernel
theorem dX12_tellsFace_65 : decode cX12_tellsFace 65 = .ok (.goto (-43), 3) := by decide +kernel
theorem dX12_tellsFace_68 : decode cX12_tellsFace 68 = .ok (.iconst 0, 1) := by decide +kernel
theorem dX12_tellsFace_69 : decode cX12_tellsFace 69 = .ok (.istore_n 3, 1) := by decide +kernel
theorem dX12_tellsFace_70 : decode cX12_tellsFace 70 = .ok (.iload_n 3, 1) := by decide +kernel
theorem dX12_tellsFace_71 : decode cX12_tellsFace 71 = .ok (.bipush 10, 2) := by decide +kernel
theorem dX12_tellsFace_73 : decode cX12_tellsFace 73 = .ok (.if_icmp .ge 93, 3) := by decide +kernel
theorem dX12_tellsFace_76 : decode cX12_tellsFace 76 = .ok (.aload_n 0, 1) := by decide +kernel
theorem dX12_tellsFace_77 : decode cX12_tellsFace 77 = .ok (.iload_n 1, 1) := by decide +kernel
theorem dX12_tellsFace_78 : decode cX12_tellsFace 78 = .ok (.iload_n 3, 1) := by decide +kernel
theorem dX12_tellsFace_79 : decode cX12_tellsFace 79 = .ok (.invokevirtual 388, 3) := by decide +kernel
theorem dX12_tellsFace_82 : decode cX12_tellsFace 82 = .ok (.iconst (-1), 1) := by decide +kernel
theorem dX12_tellsFace_83 : decode cX12_tellsFace 83 = .ok (.if_icmp .eq 15, 3) := by decide +kernel
theorem dX12_tellsFace_86 : decode cX12_tellsFace 86 = .ok (.iload_n 2, 1) := by decide +kernel
theorem dX12_tellsFace_87 : decode cX12_tellsFace 87 = .ok (.iload_n 3, 1) := by decide +kernel
theorem dX12_tellsFace_88 : decode cX12_tellsFace 88 = .ok (.invokestatic 367, 3) := by decide +kernel
theorem dX12_tellsFace_91 : decode cX12_tellsFace 91 = .ok (.ifCond .eq 7, 3) := by decide +kernel
theorem dX12_tellsFace_94 : decode cX12_tellsFace 94 = .ok (.iconst 1, 1) := by decide +kernel
theorem dX12_tellsFace_95 : decode cX12_tellsFace 95 = .ok (.goto 4, 3) := by decide +kernel
theorem dX12_tellsFace_98 : decode cX12_tellsFace 98 = .ok (.iconst 0, 1) := by decide +kernel
theorem dX12_tellsFace_99 : decode cX12_tellsFace 99 = .ok (.istore 4, 2) := by decide +kernel
theorem dX12_tellsFace_101 : decode cX12_tellsFace 101 = .ok (.aload_n 0, 1) := by decide +kernel
theorem dX12_tellsFace_102 : decode cX12_tellsFace 102 = .ok (.iload 4, 2) := by decide +kernel
theorem dX12_tellsFace_104 : decode cX12_tellsFace 104 = .ok (.ifCond .eq 7, 3) := by decide +kernel
theorem dX12_tellsFace_107 : decode cX12_tellsFace 107 = .ok (.iconst 1, 1) := by decide +kernel
theorem dX12_tellsFace_108 : decode cX12_tellsFace 108 = .ok (.goto 4, 3) := by decide +kernel
theorem dX12_tellsFace_111 : decode cX12_tellsFace 111 = .ok (.iconst 0, 1) := by decide +kernel
theorem dX12_tellsFace_112 : decode cX12_tellsFace 112 = .ok (.invokevirtual 610, 3) := by decide +kernel
theorem dX12_tellsFace_115 : decode cX12_tellsFace 115 = .ok (.iload 4, 2) := by decide +kernel
theorem dX12_tellsFace_117 : decode cX12_tellsFace 117 = .ok (.ifCond .eq 43, 3) := by decide +kernel
theorem dX12_tellsFace_120 : decode cX12_tellsFace 120 = .ok (.aload_n 0, 1) := by decide +kernel
theorem dX12_tellsFace_121 : decode cX12_tellsFace 121 = .ok (.aload_n 0, 1) := by decide +kernel
theorem dX12_tellsFace_122 : decode cX12_tellsFace 122 = .ok (.iload_n 1, 1) := by decide +kernel
theorem dX12_tellsFace_123 : decode cX12_tellsFace 123 = .ok (.iload_n 3, 1) := by decide +kernel
theorem dX12_tellsFace_124 : decode cX12_tellsFace 124 = .ok (.invokevirtual 388, 3) := by decide +kernel
theorem dX12_tellsFace_127 : decode cX12_tellsFace 127 = .ok (.invokevirtual 619, 3) := by decide +kernel
theorem dX12_tellsFace_130 : decode cX12_tellsFace 130 = .ok (.aload_n 0, 1) := by decide +kernel
theorem dX12_tellsFace_131 : decode cX12_tellsFace 131 = .ok (.aload_n 0, 1) := by decide +kernel
theorem dX12_tellsFace_132 : decode cX12_tellsFace 132 = .ok (.getfield 133, 3) := by decide +kernel
theorem dX12_tellsFace_135 : decode cX12_tellsFace 135 = .ok (.bipush 10, 2) := by decide +kernel
theorem dX12_tellsFace_137 : decode cX12_tellsFace 137 = .ok (.iload_n 1, 1) := by decide +kernel
theorem dX12_tellsFace_138 : decode cX12_tellsFace 138 = .ok (.imul, 1) := by decide +kernel
theorem dX12_tellsFace_139 : decode cX12_tellsFace 139 = .ok (.iload_n 3, 1) := by decide +kernel
theorem dX12_tellsFace_140 : decode cX12_tellsFace 140 = .ok (.iadd, 1) := by decide +kernel
theorem dX12_tellsFace_141 : decode cX12_tellsFace 141 = .ok (.iaload, 1) := by decide +kernel
theorem dX12_tellsFace_142 : decode cX12_tellsFace 142 = .ok (.invokevirtual 610, 3) := by decide +kernel
theorem dX12_tellsFace_145 : decode cX12_tellsFace 145 = .ok (.aload_n 0, 1) := by decide +kernel
theorem dX12_tellsFace_146 : decode cX12_tellsFace 146 = .ok (.aload_n 0, 1) := by decide +kernel
theorem dX12_tellsFace_147 : decode cX12_tellsFace 147 = .ok (.getfield 136, 3) := by decide +kernel
theorem dX12_tellsFace_150 : decode cX12_tellsFace 150 = .ok (.bipush 10, 2) := by decide +kernel
