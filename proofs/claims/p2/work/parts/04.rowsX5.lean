theorem dX8_check_16 : decode cX8_check 16 = .ok (.getfield 115, 3) := by decide +kernel
theorem dX8_check_19 : decode cX8_check 19 = .ok (.iload_n 1, 1) := by decide +kernel
theorem dX8_check_20 : decode cX8_check 20 = .ok (.iaload, 1) := by decide +kernel
theorem dX8_check_21 : decode cX8_check 21 = .ok (.tableswitch 94 0 6 #[64, 72, 94, 94, 86, 43, 49], 43) := by decide +kernel
theorem dX8_check_64 : decode cX8_check 64 = .ok (.aload_n 0, 1) := by decide +kernel
theorem dX8_check_65 : decode cX8_check 65 = .ok (.iconst 0, 1) := by decide +kernel
theorem dX8_check_66 : decode cX8_check 66 = .ok (.invokevirtual 148, 3) := by decide +kernel
theorem dX8_check_69 : decode cX8_check 69 = .ok (.ireturn, 1) := by decide +kernel
theorem dX8_check_70 : decode cX8_check 70 = .ok (.aload_n 0, 1) := by decide +kernel
theorem dX8_check_71 : decode cX8_check 71 = .ok (.aload_n 0, 1) := by decide +kernel
theorem dX8_check_72 : decode cX8_check 72 = .ok (.getfield 18, 3) := by decide +kernel
theorem dX8_check_75 : decode cX8_check 75 = .ok (.getfield 118, 3) := by decide +kernel
theorem dX8_check_78 : decode cX8_check 78 = .ok (.iload_n 1, 1) := by decide +kernel
theorem dX8_check_79 : decode cX8_check 79 = .ok (.iaload, 1) := by decide +kernel
theorem dX8_check_80 : decode cX8_check 80 = .ok (.aload_n 2, 1) := by decide +kernel
theorem dX8_check_81 : decode cX8_check 81 = .ok (.invokevirtual 152, 3) := by decide +kernel
theorem dX8_check_84 : decode cX8_check 84 = .ok (.ireturn, 1) := by decide +kernel
theorem dX8_check_85 : decode cX8_check 85 = .ok (.aload_n 0, 1) := by decide +kernel
theorem dX8_check_86 : decode cX8_check 86 = .ok (.iload_n 1, 1) := by decide +kernel
theorem dX8_check_87 : decode cX8_check 87 = .ok (.aload_n 2, 1) := by decide +kernel
theorem dX8_check_88 : decode cX8_check 88 = .ok (.iload_n 3, 1) := by decide +kernel
theorem dX8_check_89 : decode cX8_check 89 = .ok (.invokevirtual 156, 3) := by decide +kernel
theorem dX8_check_92 : decode cX8_check 92 = .ok (.ireturn, 1) := by decide +kernel
theorem dX8_check_93 : decode cX8_check 93 = .ok (.aload_n 0, 1) := by decide +kernel
theorem dX8_check_94 : decode cX8_check 94 = .ok (.iconst 1, 1) := by decide +kernel
theorem dX8_check_95 : decode cX8_check 95 = .ok (.invokevirtual 148, 3) := by decide +kernel
theorem dX8_check_98 : decode cX8_check 98 = .ok (.pop, 1) := by decide +kernel
theorem dX8_check_99 : decode cX8_check 99 = .ok (.aload_n 0, 1) := by decide +kernel
theorem dX8_check_100 : decode cX8_check 100 = .ok (.iload_n 1, 1) := by decide +kernel
theorem dX8_check_101 : decode cX8_check 101 = .ok (.aload_n 2, 1) := by decide +kernel
theorem dX8_check_102 : decode cX8_check 102 = .ok (.iload_n 3, 1) := by decide +kernel
theorem dX8_check_103 : decode cX8_check 103 = .ok (.invokevirtual 159, 3) := by decide +kernel
theorem dX8_check_106 : decode cX8_check 106 = .ok (.ireturn, 1) := by decide +kernel
theorem dX8_check_107 : decode cX8_check 107 = .ok (.aload_n 0, 1) := by decide +kernel
theorem dX8_check_108 : decode cX8_check 108 = .ok (.iload_n 1, 1) := by decide +kernel
theorem dX8_check_109 : decode cX8_check 109 = .ok (.aload_n 2, 1) := by decide +kernel
theorem dX8_check_110 : decode cX8_check 110 = .ok (.iload_n 3, 1) := by decide +kernel
theorem dX8_check_111 : decode cX8_check 111 = .ok (.invokevirtual 162, 3) := by decide +kernel
theorem dX8_check_114 : decode cX8_check 114 = .ok (.ireturn, 1) := by decide +kernel
theorem dX8_check_115 : decode cX8_check 115 = .ok (.aload_n 0, 1) := by decide +kernel
theorem dX8_check_116 : decode cX8_check 116 = .ok (.iload_n 1, 1) := by decide +kernel
theorem dX8_check_117 : decode cX8_check 117 = .ok (.aload_n 2, 1) := by decide +kernel
theorem dX8_check_118 : decode cX8_check 118 = .ok (.iload_n 3, 1) := by decide +kernel
theorem dX8_check_119 : decode cX8_check 119 = .ok (.invokevirtual 165, 3) := by decide +kernel
theorem dX8_check_122 : decode cX8_check 122 = .ok (.ireturn, 1) := by decide +kernel
theorem dX8_push_0 : decode cX8_push 0 = .ok (.aload_n 0, 1) := by decide +kernel
theorem dX8_push_1 : decode cX8_push 1 = .ok (.getfield 125, 3) := by decide +kernel
theorem dX8_push_4 : decode cX8_push 4 = .ok (.aload_n 0, 1) := by decide +kernel
theorem dX8_push_5 : decode cX8_push 5 = .ok (.getfield 15, 3) := by decide +kernel
theorem dX8_push_8 : decode cX8_push 8 = .ok (.arraylength, 1) := by decide +kernel
theorem dX8_push_9 : decode cX8_push 9 = .ok (.if_icmp .lt 37, 3) := by decide +kernel
theorem dX8_push_12 : decode cX8_push 12 = .ok (.aload_n 0, 1) := by decide +kernel
theorem dX8_push_13 : decode cX8_push 13 = .ok (.getfield 125, 3) := by decide +kernel
theorem dX8_push_16 : decode cX8_push 16 = .ok (.sipush 2412, 3) := by decide +kernel
theorem dX8_push_19 : decode cX8_push 19 = .ok (.if_icmp .ge 27, 3) := by decide +kernel
theorem dX8_push_22 : decode cX8_push 22 = .ok (.aload_n 0, 1) := by decide +kernel
theorem dX8_push_23 : decode cX8_push 23 = .ok (.aload_n 0, 1) := by decide +kernel
theorem dX8_push_24 : decode cX8_push 24 = .ok (.getfield 15, 3) := by decide +kernel
theorem dX8_push_27 : decode cX8_push 27 = .ok (.iconst 2, 1) := by decide +kernel
theorem dX8_push_28 : decode cX8_push 28 = .ok (.aload_n 0, 1) := by decide +kernel
theorem dX8_push_29 : decode cX8_push 29 = .ok (.getfield 15, 3) := by decide +kernel
theorem dX8_push_32 : decode cX8_push 32 = .ok (.arraylength, 1) := by decide +kernel
theorem dX8_push_33 : decode cX8_push 33 = .ok (.imul, 1) := by decide +kernel
theorem dX8_push_34 : decode cX8_push 34 = .ok (.sipush 2412, 3) := by decide +kernel
theorem dX8_push_37 : decode cX8_push 37 = .ok (.invokestatic 168, 3) := by decide +kernel
theorem dX8_push_40 : decode cX8_push 40 = .ok (.invokestatic 173, 3) := by decide +kernel
theorem dX8_push_43 : decode cX8_push 43 = .ok (.putfield 15, 3) := by decide +kernel
theorem dX8_push_46 : decode cX8_push 46 = .ok (.aload_n 0, 1) := by decide +kernel
theorem dX8_push_47 : decode cX8_push 47 = .ok (.getfield 125, 3) := by decide +kernel
theorem dX8_push_50 : decode cX8_push 50 = .ok (.aload_n 0, 1) := by decide +kernel
theorem dX8_push_51 : decode cX8_push 51 = .ok (.getfield 15, 3) := by decide +kernel
theorem dX8_push_54 : decode cX8_push 54 = .ok (.arraylength, 1) := by decide +kernel
theorem dX8_push_55 : decode cX8_push 55 = .ok (.if_icmp .lt 5, 3) := by decide +kernel
theorem dX8_push_58 : decode cX8_push 58 = .ok (.iconst 2, 1) := by decide +kernel
theorem dX8_push_59 : decode cX8_push 59 = .ok (.ireturn, 1) := by decide +kernel
theorem dX8_push_60 : decode cX8_push 60 = .ok (.aload_n 0, 1) := by decide +kernel
theorem dX8_push_61 : decode cX8_push 61 = .ok (.getfield 15, 3) := by decide +kernel
theorem dX8_push_64 : decode cX8_push 64 = .ok (.aload_n 0, 1) := by decide +kernel
theorem dX8_push_65 : decode cX8_push 65 = .ok (.getfield 125, 3) := by decide +kernel
theorem dX8_push_68 : decode cX8_push 68 = .ok (.iload_n 1, 1) := by decide +kernel
theorem dX8_push_69 : decode cX8_push 69 = .ok (.iastore, 1) := by decide +kernel
theorem dX8_push_70 : decode cX8_push 70 = .ok (.aload_n 0, 1) := by decide +kernel
theorem dX8_push_71 : decode cX8_push 71 = .ok (.dup, 1) := by decide +kernel
theorem dX8_push_72 : decode cX8_push 72 = .ok (.getfield 125, 3) := by decide +kernel
theorem dX8_push_75 : decode cX8_push 75 = .ok (.iconst 1, 1) := by decide +kernel
theorem dX8_push_76 : decode cX8_push 76 = .ok (.iadd, 1) := by decide +kernel
theorem dX8_push_77 : decode cX8_push 77 = .ok (.putfield 125, 3) := by decide +kernel
theorem dX8_push_80 : decode cX8_push 80 = .ok (.iconst 0, 1) := by decide +kernel
theorem dX8_push_81 : decode cX8_push 81 = .ok (.ireturn, 1) := by decide +kernel
theorem dX8_checkRef_0 : decode cX8_checkRef 0 = .ok (.aload_n 2, 1) := by decide +kernel
theorem dX8_checkRef_1 : decode cX8_checkRef 1 = .ok (.iload_n 1, 1) := by decide +kernel
theorem dX8_checkRef_2 : decode cX8_checkRef 2 = .ok (.invokevirtual 179, 3) := by decide +kernel
theorem dX8_checkRef_5 : decode cX8_checkRef 5 = .ok (.ifCond .ne 5, 3) := by decide +kernel
theorem dX8_checkRef_8 : decode cX8_checkRef 8 = .ok (.iconst 1, 1) := by decide +kernel
theorem dX8_checkRef_9 : decode cX8_checkRef 9 = .ok (.ireturn, 1) := by decide +kernel
theorem dX8_checkRef_10 : decode cX8_checkRef 10 = .ok (.aload_n 2, 1) := by decide +kernel
theorem dX8_checkRef_11 : decode cX8_checkRef 11 = .ok (.getfield 133, 3) := by decide +kernel
theorem dX8_checkRef_14 : decode cX8_checkRef 14 = .ok (.bipush 6, 2) := by decide +kernel
theorem dX8_checkRef_16 : decode cX8_checkRef 16 = .ok (.iload_n 1, 1) := by decide +kernel
theorem dX8_checkRef_17 : decode cX8_checkRef 17 = .ok (.iadd, 1) := by decide +kernel
theorem dX8_checkRef_18 : decode cX8_checkRef 18 = .ok (.aaload, 1) := by decide +kernel
theorem dX8_checkRef_19 : decode cX8_checkRef 19 = .ok (.astore_n 3, 1) := by decide +kernel
theorem dX8_checkRef_20 : decode cX8_checkRef 20 = .ok (.iconst 0, 1) := by decide +kernel
theorem dX8_checkRef_21 : decode cX8_checkRef 21 = .ok (.istore 4, 2) := by decide +kernel
theorem dX8_checkRef_23 : decode cX8_checkRef 23 = .ok (.iload 4, 2) := by decide +kernel
theorem dX8_checkRef_25 : decode cX8_checkRef 25 = .ok (.aload_n 2, 1) := by decide +kernel
theorem dX8_checkRef_26 : decode cX8_checkRef 26 = .ok (.getfield 134, 3) := by decide +kernel
theorem dX8_checkRef_29 : decode cX8_checkRef 29 = .ok (.bipush 6, 2) := by decide +kernel
theorem dX8_checkRef_31 : decode cX8_checkRef 31 = .ok (.iload_n 1, 1) := by decide +kernel
theorem dX8_checkRef_32 : decode cX8_checkRef 32 = .ok (.iadd, 1) := by decide +kernel
theorem dX8_checkRef_33 : decode cX8_checkRef 33 = .ok (.iaload, 1) := by decide +kernel
theorem dX8_checkRef_34 : decode cX8_checkRef 34 = .ok (.if_icmp .ge 25, 3) := by decide +kernel
theorem dX8_checkRef_37 : decode cX8_checkRef 37 = .ok (.iload 4, 2) := by decide +kernel
theorem dX8_checkRef_39 : decode cX8_checkRef 39 = .ok (.aload_n 3, 1) := by decide +kernel
theorem dX8_checkRef_40 : decode cX8_checkRef 40 = .ok (.arraylength, 1) := by decide +kernel
theorem dX8_checkRef_41 : decode cX8_checkRef 41 = .ok (.if_icmp .ge 18, 3) := by decide +kernel
theorem dX8_checkRef_44 : decode cX8_checkRef 44 = .ok (.aload_n 0, 1) := by decide +kernel
theorem dX8_checkRef_45 : decode cX8_checkRef 45 = .ok (.aload_n 3, 1) := by decide +kernel
theorem dX8_checkRef_46 : decode cX8_checkRef 46 = .ok (.iload 4, 2) := by decide +kernel
theorem dX8_checkRef_48 : decode cX8_checkRef 48 = .ok (.iaload, 1) := by decide +kernel
theorem dX8_checkRef_49 : decode cX8_checkRef 49 = .ok (.invokevirtual 148, 3) := by decide +kernel
theorem dX8_checkRef_52 : decode cX8_checkRef 52 = .ok (.pop, 1) := by decide +kernel
theorem dX8_checkRef_53 : decode cX8_checkRef 53 = .ok (.iinc 4 1, 3) := by decide +kernel
theorem dX8_checkRef_56 : decode cX8_checkRef 56 = .ok (.goto (-33), 3) := by decide +kernel
theorem dX8_checkRef_59 : decode cX8_checkRef 59 = .ok (.iconst 0, 1) := by decide +kernel
theorem dX8_checkRef_60 : decode cX8_checkRef 60 = .ok (.ireturn, 1) := by decide +kernel
theorem dX8_checkBoth_0 : decode cX8_checkBoth 0 = .ok (.aload_n 0, 1) := by decide +kernel
theorem dX8_checkBoth_1 : decode cX8_checkBoth 1 = .ok (.aload_n 0, 1) := by decide +kernel
theorem dX8_checkBoth_2 : decode cX8_checkBoth 2 = .ok (.getfield 18, 3) := by decide +kernel
theorem dX8_checkBoth_5 : decode cX8_checkBoth 5 = .ok (.getfield 118, 3) := by decide +kernel
theorem dX8_checkBoth_8 : decode cX8_checkBoth 8 = .ok (.iload_n 1, 1) := by decide +kernel
theorem dX8_checkBoth_9 : decode cX8_checkBoth 9 = .ok (.iaload, 1) := by decide +kernel
theorem dX8_checkBoth_10 : decode cX8_checkBoth 10 = .ok (.aload_n 2, 1) := by decide +kernel
theorem dX8_checkBoth_11 : decode cX8_checkBoth 11 = .ok (.iload_n 3, 1) := by decide +kernel
theorem dX8_checkBoth_12 : decode cX8_checkBoth 12 = .ok (.iconst 1, 1) := by decide +kernel
theorem dX8_checkBoth_13 : decode cX8_checkBoth 13 = .ok (.iadd, 1) := by decide +kernel
theorem dX8_checkBoth_14 : decode cX8_checkBoth 14 = .ok (.invokevirtual 129, 3) := by decide +kernel
theorem dX8_checkBoth_17 : decode cX8_checkBoth 17 = .ok (.istore 4, 2) := by decide +kernel
theorem dX8_checkBoth_19 : decode cX8_checkBoth 19 = .ok (.iload 4, 2) := by decide +kernel
theorem dX8_checkBoth_21 : decode cX8_checkBoth 21 = .ok (.ifCond .eq 8, 3) := by decide +kernel
theorem dX8_checkBoth_24 : decode cX8_checkBoth 24 = .ok (.iload 4, 2) := by decide +kernel
theorem dX8_checkBoth_26 : decode cX8_checkBoth 26 = .ok (.goto 20, 3) := by decide +kernel
theorem dX8_checkBoth_29 : decode cX8_checkBoth 29 = .ok (.aload_n 0, 1) := by decide +kernel
theorem dX8_checkBoth_30 : decode cX8_checkBoth 30 = .ok (.aload_n 0, 1) := by decide +kernel
theorem dX8_checkBoth_31 : decode cX8_checkBoth 31 = .ok (.getfield 18, 3) := by decide +kernel
theorem dX8_checkBoth_34 : decode cX8_checkBoth 34 = .ok (.getfield 180, 3) := by decide +kernel
theorem dX8_checkBoth_37 : decode cX8_checkBoth 37 = .ok (.iload_n 1, 1) := by decide +kernel
theorem dX8_checkBoth_38 : decode cX8_checkBoth 38 = .ok (.iaload, 1) := by decide +kernel
theorem dX8_checkBoth_39 : decode cX8_checkBoth 39 = .ok (.aload_n 2, 1) := by decide +kernel
theorem dX8_checkBoth_40 : decode cX8_checkBoth 40 = .ok (.iload_n 3, 1) := by decide +kernel
theorem dX8_checkBoth_41 : decode cX8_checkBoth 41 = .ok (.iconst 1, 1) := by decide +kernel
theorem dX8_checkBoth_42 : decode cX8_checkBoth 42 = .ok (.iadd, 1) := by decide +kernel
theorem dX8_checkBoth_43 : decode cX8_checkBoth 43 = .ok (.invokevirtual 129, 3) := by decide +kernel
theorem dX8_checkBoth_46 : decode cX8_checkBoth 46 = .ok (.ireturn, 1) := by decide +kernel
theorem dX8_checkAdd_0 : decode cX8_checkAdd 0 = .ok (.aload_n 0, 1) := by decide +kernel
theorem dX8_checkAdd_1 : decode cX8_checkAdd 1 = .ok (.getfield 125, 3) := by decide +kernel
theorem dX8_checkAdd_4 : decode cX8_checkAdd 4 = .ok (.istore 4, 2) := by decide +kernel
theorem dX8_checkAdd_6 : decode cX8_checkAdd 6 = .ok (.aload_n 0, 1) := by decide +kernel
theorem dX8_checkAdd_7 : decode cX8_checkAdd 7 = .ok (.iload_n 1, 1) := by decide +kernel
theorem dX8_checkAdd_8 : decode cX8_checkAdd 8 = .ok (.aload_n 2, 1) := by decide +kernel
theorem dX8_checkAdd_9 : decode cX8_checkAdd 9 = .ok (.iload_n 3, 1) := by decide +kernel
theorem dX8_checkAdd_10 : decode cX8_checkAdd 10 = .ok (.invokevirtual 159, 3) := by decide +kernel
theorem dX8_checkAdd_13 : decode cX8_checkAdd 13 = .ok (.istore 5, 2) := by decide +kernel
theorem dX8_checkAdd_15 : decode cX8_checkAdd 15 = .ok (.iload 5, 2) := by decide +kernel
theorem dX8_checkAdd_17 : decode cX8_checkAdd 17 = .ok (.ifCond .eq 6, 3) := by decide +kernel
theorem dX8_checkAdd_20 : decode cX8_checkAdd 20 = .ok (.iload 5, 2) := by decide +kernel
theorem dX8_checkAdd_22 : decode cX8_checkAdd 22 = .ok (.ireturn, 1) := by decide +kernel
theorem dX8_checkAdd_23 : decode cX8_checkAdd 23 = .ok (.aload_n 0, 1) := by decide +kernel
theorem dX8_checkAdd_24 : decode cX8_checkAdd 24 = .ok (.getfield 125, 3) := by decide +kernel
theorem dX8_checkAdd_27 : decode cX8_checkAdd 27 = .ok (.iload 4, 2) := by decide +kernel
theorem dX8_checkAdd_29 : decode cX8_checkAdd 29 = .ok (.iconst 2, 1) := by decide +kernel
theorem dX8_checkAdd_30 : decode cX8_checkAdd 30 = .ok (.iadd, 1) := by decide +kernel
theorem dX8_checkAdd_31 : decode cX8_checkAdd 31 = .ok (.if_icmp .ne 27, 3) := by decide +kernel
theorem dX8_checkAdd_34 : decode cX8_checkAdd 34 = .ok (.aload_n 0, 1) := by decide +kernel
theorem dX8_checkAdd_35 : decode cX8_checkAdd 35 = .ok (.iload 4, 2) := by decide +kernel
theorem dX8_checkAdd_37 : decode cX8_checkAdd 37 = .ok (.invokevirtual 183, 3) := by decide +kernel
theorem dX8_checkAdd_40 : decode cX8_checkAdd 40 = .ok (.ifCond .eq 18, 3) := by decide +kernel
theorem dX8_checkAdd_43 : decode cX8_checkAdd 43 = .ok (.aload_n 0, 1) := by decide +kernel
theorem dX8_checkAdd_44 : decode cX8_checkAdd 44 = .ok (.iload 4, 2) := by decide +kernel
theorem dX8_checkAdd_46 : decode cX8_checkAdd 46 = .ok (.iconst 1, 1) := by decide +kernel
theorem dX8_checkAdd_47 : decode cX8_checkAdd 47 = .ok (.iadd, 1) := by decide +kernel
theorem dX8_checkAdd_48 : decode cX8_checkAdd 48 = .ok (.invokevirtual 183, 3) := by decide +kernel
theorem dX8_checkAdd_51 : decode cX8_checkAdd 51 = .ok (.ifCond .eq 7, 3) := by decide +kernel
theorem dX8_checkAdd_54 : decode cX8_checkAdd 54 = .ok (.iconst 1, 1) := by decide +kernel
theorem dX8_checkAdd_55 : decode cX8_checkAdd 55 = .ok (.goto 4, 3) := by decide +kernel
theorem dX8_checkAdd_58 : decode cX8_checkAdd 58 = .ok (.iconst 0, 1) := by decide +kernel
theorem dX8_checkAdd_59 : decode cX8_checkAdd 59 = .ok (.istore 6, 2) := by decide +kernel
theorem dX8_checkAdd_61 : decode cX8_checkAdd 61 = .ok (.aload_n 0, 1) := by decide +kernel
theorem dX8_checkAdd_62 : decode cX8_checkAdd 62 = .ok (.iload 4, 2) := by decide +kernel
theorem dX8_checkAdd_64 : decode cX8_checkAdd 64 = .ok (.iconst 1, 1) := by decide +kernel
theorem dX8_checkAdd_65 : decode cX8_checkAdd 65 = .ok (.iadd, 1) := by decide +kernel
theorem dX8_checkAdd_66 : decode cX8_checkAdd 66 = .ok (.putfield 125, 3) := by decide +kernel
theorem dX8_checkAdd_69 : decode cX8_checkAdd 69 = .ok (.iload 6, 2) := by decide +kernel
theorem dX8_checkAdd_71 : decode cX8_checkAdd 71 = .ok (.ifCond .eq 7, 3) := by decide +kernel
theorem dX8_checkAdd_74 : decode cX8_checkAdd 74 = .ok (.iconst 0, 1) := by decide +kernel
theorem dX8_checkAdd_75 : decode cX8_checkAdd 75 = .ok (.goto 4, 3) := by decide +kernel
theorem dX8_checkAdd_78 : decode cX8_checkAdd 78 = .ok (.iconst 2, 1) := by decide +kernel
theorem dX8_checkAdd_79 : decode cX8_checkAdd 79 = .ok (.ireturn, 1) := by decide +kernel
theorem dX8_isIntAt_0 : decode cX8_isIntAt 0 = .ok (.iload_n 1, 1) := by decide +kernel
theorem dX8_isIntAt_1 : decode cX8_isIntAt 1 = .ok (.aload_n 0, 1) := by decide +kernel
theorem dX8_isIntAt_2 : decode cX8_isIntAt 2 = .ok (.getfield 125, 3) := by decide +kernel
theorem dX8_isIntAt_5 : decode cX8_isIntAt 5 = .ok (.if_icmp .ge 16, 3) := by decide +kernel
theorem dX8_isIntAt_8 : decode cX8_isIntAt 8 = .ok (.aload_n 0, 1) := by decide +kernel
theorem dX8_isIntAt_9 : decode cX8_isIntAt 9 = .ok (.getfield 15, 3) := by decide +kernel
theorem dX8_isIntAt_12 : decode cX8_isIntAt 12 = .ok (.iload_n 1, 1) := by decide +kernel
theorem dX8_isIntAt_13 : decode cX8_isIntAt 13 = .ok (.iaload, 1) := by decide +kernel
theorem dX8_isIntAt_14 : decode cX8_isIntAt 14 = .ok (.ifCond .ne 7, 3) := by decide +kernel
theorem dX8_isIntAt_17 : decode cX8_isIntAt 17 = .ok (.iconst 1, 1) := by decide +kernel
theorem dX8_isIntAt_18 : decode cX8_isIntAt 18 = .ok (.goto 4, 3) := by decide +kernel
theorem dX8_isIntAt_21 : decode cX8_isIntAt 21 = .ok (.iconst 0, 1) := by decide +kernel
theorem dX8_isIntAt_22 : decode cX8_isIntAt 22 = .ok (.ireturn, 1) := by decide +kernel
theorem dX8_checkWhen_0 : decode cX8_checkWhen 0 = .ok (.aload_n 0, 1) := by decide +kernel
theorem dX8_checkWhen_1 : decode cX8_checkWhen 1 = .ok (.getfield 125, 3) := by decide +kernel
theorem dX8_checkWhen_4 : decode cX8_checkWhen 4 = .ok (.istore 4, 2) := by decide +kernel
theorem dX8_checkWhen_6 : decode cX8_checkWhen 6 = .ok (.aload_n 0, 1) := by decide +kernel
theorem dX8_checkWhen_7 : decode cX8_checkWhen 7 = .ok (.aload_n 0, 1) := by decide +kernel
theorem dX8_checkWhen_8 : decode cX8_checkWhen 8 = .ok (.getfield 18, 3) := by decide +kernel
theorem dX8_checkWhen_11 : decode cX8_checkWhen 11 = .ok (.getfield 118, 3) := by decide +kernel
theorem dX8_checkWhen_14 : decode cX8_checkWhen 14 = .ok (.iload_n 1, 1) := by decide +kernel
theorem dX8_checkWhen_15 : decode cX8_checkWhen 15 = .ok (.iaload, 1) := by decide +kernel
theorem dX8_checkWhen_16 : decode cX8_checkWhen 16 = .ok (.aload_n 2, 1) := by decide +kernel
theorem dX8_checkWhen_17 : decode cX8_checkWhen 17 = .ok (.iload_n 3, 1) := by decide +kernel
theorem dX8_checkWhen_18 : decode cX8_checkWhen 18 = .ok (.iconst 1, 1) := by decide +kernel
theorem dX8_checkWhen_19 : decode cX8_checkWhen 19 = .ok (.iadd, 1) := by decide +kernel
theorem dX8_checkWhen_20 : decode cX8_checkWhen 20 = .ok (.invokevirtual 129, 3) := by decide +kernel
theorem dX8_checkWhen_23 : decode cX8_checkWhen 23 = .ok (.istore 5, 2) := by decide +kernel
theorem dX8_checkWhen_25 : decode cX8_checkWhen 25 = .ok (.iload 5, 2) := by decide +kernel
theorem dX8_checkWhen_27 : decode cX8_checkWhen 27 = .ok (.ifCond .eq 6, 3) := by decide +kernel
theorem dX8_checkWhen_30 : decode cX8_checkWhen 30 = .ok (.iload 5, 2) := by decide +kernel
theorem dX8_checkWhen_32 : decode cX8_checkWhen 32 = .ok (.ireturn, 1) := by decide +kernel
theorem dX8_checkWhen_33 : decode cX8_checkWhen 33 = .ok (.aload_n 0, 1) := by decide +kernel
theorem dX8_checkWhen_34 : decode cX8_checkWhen 34 = .ok (.getfield 125, 3) := by decide +kernel
theorem dX8_checkWhen_37 : decode cX8_checkWhen 37 = .ok (.iload 4, 2) := by decide +kernel
theorem dX8_checkWhen_39 : decode cX8_checkWhen 39 = .ok (.iconst 1, 1) := by decide +kernel
theorem dX8_checkWhen_40 : decode cX8_checkWhen 40 = .ok (.iadd, 1) := by decide +kernel
theorem dX8_checkWhen_41 : decode cX8_checkWhen 41 = .ok (.if_icmp .ne 16, 3) := by decide +kernel
theorem dX8_checkWhen_44 : decode cX8_checkWhen 44 = .ok (.aload_n 0, 1) := by decide +kernel
theorem dX8_checkWhen_45 : decode cX8_checkWhen 45 = .ok (.iload 4, 2) := by decide +kernel
theorem dX8_checkWhen_47 : decode cX8_checkWhen 47 = .ok (.invokevirtual 183, 3) := by decide +kernel
theorem dX8_checkWhen_50 : decode cX8_checkWhen 50 = .ok (.ifCond .eq 7, 3) := by decide +kernel
theorem dX8_checkWhen_53 : decode cX8_checkWhen 53 = .ok (.iconst 1, 1) := by decide +kernel
theorem dX8_checkWhen_54 : decode cX8_checkWhen 54 = .ok (.goto 4, 3) := by decide +kernel
theorem dX8_checkWhen_57 : decode cX8_checkWhen 57 = .ok (.iconst 0, 1) := by decide +kernel
theorem dX8_checkWhen_58 : decode cX8_checkWhen 58 = .ok (.istore 6, 2) := by decide +kernel
theorem dX8_checkWhen_60 : decode cX8_checkWhen 60 = .ok (.aload_n 0, 1) := by decide +kernel
theorem dX8_checkWhen_61 : decode cX8_checkWhen 61 = .ok (.getfield 125, 3) := by decide +kernel
theorem dX8_checkWhen_64 : decode cX8_checkWhen 64 = .ok (.istore 7, 2) := by decide +kernel
theorem dX8_checkWhen_66 : decode cX8_checkWhen 66 = .ok (.aload_n 0, 1) := by decide +kernel
theorem dX8_checkWhen_67 : decode cX8_checkWhen 67 = .ok (.aload_n 0, 1) := by decide +kernel
theorem dX8_checkWhen_68 : decode cX8_checkWhen 68 = .ok (.getfield 18, 3) := by decide +kernel
theorem dX8_checkWhen_71 : decode cX8_checkWhen 71 = .ok (.getfield 180, 3) := by decide +kernel
theorem dX8_checkWhen_74 : decode cX8_checkWhen 74 = .ok (.iload_n 1, 1) := by decide +kernel
theorem dX8_checkWhen_75 : decode cX8_checkWhen 75 = .ok (.iaload, 1) := by decide +kernel
theorem dX8_checkWhen_76 : decode cX8_checkWhen 76 = .ok (.aload_n 2, 1) := by decide +kernel
theorem dX8_checkWhen_77 : decode cX8_checkWhen 77 = .ok (.iload_n 3, 1) := by decide +kernel
theorem dX8_checkWhen_78 : decode cX8_checkWhen 78 = .ok (.iconst 1, 1) := by decide +kernel
theorem dX8_checkWhen_79 : decode cX8_checkWhen 79 = .ok (.iadd, 1) := by decide +kernel
theorem dX8_checkWhen_80 : decode cX8_checkWhen 80 = .ok (.invokevirtual 129, 3) := by decide +kernel
theorem dX8_checkWhen_83 : decode cX8_checkWhen 83 = .ok (.istore 5, 2) := by decide +kernel
theorem dX8_checkWhen_85 : decode cX8_checkWhen 85 = .ok (.iload 5, 2) := by decide +kernel
theorem dX8_checkWhen_87 : decode cX8_checkWhen 87 = .ok (.ifCond .eq 6, 3) := by decide +kernel
theorem dX8_checkWhen_90 : decode cX8_checkWhen 90 = .ok (.iload 5, 2) := by decide +kernel
theorem dX8_checkWhen_92 : decode cX8_checkWhen 92 = .ok (.ireturn, 1) := by decide +kernel
theorem dX8_checkWhen_93 : decode cX8_checkWhen 93 = .ok (.aload_n 0, 1) := by decide +kernel
theorem dX8_checkWhen_94 : decode cX8_checkWhen 94 = .ok (.getfield 125, 3) := by decide +kernel
theorem dX8_checkWhen_97 : decode cX8_checkWhen 97 = .ok (.istore 8, 2) := by decide +kernel
theorem dX8_checkWhen_99 : decode cX8_checkWhen 99 = .ok (.aload_n 0, 1) := by decide +kernel
theorem dX8_checkWhen_100 : decode cX8_checkWhen 100 = .ok (.aload_n 0, 1) := by decide +kernel
theorem dX8_checkWhen_101 : decode cX8_checkWhen 101 = .ok (.getfield 18, 3) := by decide +kernel
theorem dX8_checkWhen_104 : decode cX8_checkWhen 104 = .ok (.getfield 186, 3) := by decide +kernel
theorem dX8_checkWhen_107 : decode cX8_checkWhen 107 = .ok (.iload_n 1, 1) := by decide +kernel
theorem dX8_checkWhen_108 : decode cX8_checkWhen 108 = .ok (.iaload, 1) := by decide +kernel
theorem dX8_checkWhen_109 : decode cX8_checkWhen 109 = .ok (.aload_n 2, 1) := by decide +kernel
theorem dX8_checkWhen_110 : decode cX8_checkWhen 110 = .ok (.iload_n 3, 1) := by decide +kernel
theorem dX8_checkWhen_111 : decode cX8_checkWhen 111 = .ok (.iconst 1, 1) := by decide +kernel
theorem dX8_checkWhen_112 : decode cX8_checkWhen 112 = .ok (.iadd, 1) := by decide +kernel
theorem dX8_checkWhen_113 : decode cX8_checkWhen 113 = .ok (.invokevirtual 129, 3) := by decide +kernel
theorem dX8_checkWhen_116 : decode cX8_checkWhen 116 = .ok (.istore 5, 2) := by decide +kernel
theorem dX8_checkWhen_118 : decode cX8_checkWhen 118 = .ok (.iload 5, 2) := by decide +kernel
theorem dX8_checkWhen_120 : decode cX8_checkWhen 120 = .ok (.ifCond .eq 6, 3) := by decide +kernel
theorem dX8_checkWhen_123 : decode cX8_checkWhen 123 = .ok (.iload 5, 2) := by decide +kernel
theorem dX8_checkWhen_125 : decode cX8_checkWhen 125 = .ok (.ireturn, 1) := by decide +kernel
theorem dX8_checkWhen_126 : decode cX8_checkWhen 126 = .ok (.aload_n 0, 1) := by decide +kernel
theorem dX8_checkWhen_127 : decode cX8_checkWhen 127 = .ok (.iload 7, 2) := by decide +kernel
theorem dX8_checkWhen_129 : decode cX8_checkWhen 129 = .ok (.iload 8, 2) := by decide +kernel
theorem dX8_checkWhen_131 : decode cX8_checkWhen 131 = .ok (.aload_n 0, 1) := by decide +kernel
theorem dX8_checkWhen_132 : decode cX8_checkWhen 132 = .ok (.getfield 125, 3) := by decide +kernel
theorem dX8_checkWhen_135 : decode cX8_checkWhen 135 = .ok (.invokevirtual 189, 3) := by decide +kernel
theorem dX8_checkWhen_138 : decode cX8_checkWhen 138 = .ok (.istore 9, 2) := by decide +kernel
theorem dX8_checkWhen_140 : decode cX8_checkWhen 140 = .ok (.aload_n 0, 1) := by decide +kernel
theorem dX8_checkWhen_141 : decode cX8_checkWhen 141 = .ok (.iload 4, 2) := by decide +kernel
theorem dX8_checkWhen_143 : decode cX8_checkWhen 143 = .ok (.iload 7, 2) := by decide +kernel
theorem dX8_checkWhen_145 : decode cX8_checkWhen 145 = .ok (.iload 8, 2) := by decide +kernel
theorem dX8_checkWhen_147 : decode cX8_checkWhen 147 = .ok (.invokevirtual 193, 3) := by decide +kernel
theorem dX8_checkWhen_150 : decode cX8_checkWhen 150 = .ok (.iload 6, 2) := by decide +kernel
theorem dX8_checkWhen_152 : decode cX8_checkWhen 152 = .ok (.ifCond .eq 12, 3) := by decide +kernel
theorem dX8_checkWhen_155 : decode cX8_checkWhen 155 = .ok (.iload 9, 2) := by decide +kernel
theorem dX8_checkWhen_157 : decode cX8_checkWhen 157 = .ok (.ifCond .eq 7, 3) := by decide +kernel
theorem dX8_checkWhen_160 : decode cX8_checkWhen 160 = .ok (.iconst 0, 1) := by decide +kernel
theorem dX8_checkWhen_161 : decode cX8_checkWhen 161 = .ok (.goto 4, 3) := by decide +kernel
theorem dX8_checkWhen_164 : decode cX8_checkWhen 164 = .ok (.iconst 2, 1) := by decide +kernel
theorem dX8_checkWhen_165 : decode cX8_checkWhen 165 = .ok (.ireturn, 1) := by decide +kernel
theorem dX8_isSameOnStack_0 : decode cX8_isSameOnStack 0 = .ok (.iload_n 2, 1) := by decide +kernel
theorem dX8_isSameOnStack_1 : decode cX8_isSameOnStack 1 = .ok (.iload_n 1, 1) := by decide +kernel
theorem dX8_isSameOnStack_2 : decode cX8_isSameOnStack 2 = .ok (.isub, 1) := by decide +kernel
theorem dX8_isSameOnStack_3 : decode cX8_isSameOnStack 3 = .ok (.iload_n 3, 1) := by decide +kernel
theorem dX8_isSameOnStack_4 : decode cX8_isSameOnStack 4 = .ok (.iload_n 2, 1) := by decide +kernel
theorem dX8_isSameOnStack_5 : decode cX8_isSameOnStack 5 = .ok (.isub, 1) := by decide +kernel
theorem dX8_isSameOnStack_6 : decode cX8_isSameOnStack 6 = .ok (.if_icmp .eq 5, 3) := by decide +kernel
theorem dX8_isSameOnStack_9 : decode cX8_isSameOnStack 9 = .ok (.iconst 0, 1) := by decide +kernel
theorem dX8_isSameOnStack_10 : decode cX8_isSameOnStack 10 = .ok (.ireturn, 1) := by decide +kernel
theorem dX8_isSameOnStack_11 : decode cX8_isSameOnStack 11 = .ok (.iconst 0, 1) := by decide +kernel
theorem dX8_isSameOnStack_12 : decode cX8_isSameOnStack 12 = .ok (.istore 4, 2) := by decide +kernel
theorem dX8_isSameOnStack_14 : decode cX8_isSameOnStack 14 = .ok (.iload_n 1, 1) := by decide +kernel
theorem dX8_isSameOnStack_15 : decode cX8_isSameOnStack 15 = .ok (.iload 4, 2) := by decide +kernel
theorem dX8_isSameOnStack_17 : decode cX8_isSameOnStack 17 = .ok (.iadd, 1) := by decide +kernel
theorem dX8_isSameOnStack_18 : decode cX8_isSameOnStack 18 = .ok (.iload_n 2, 1) := by decide +kernel
theorem dX8_isSameOnStack_19 : decode cX8_isSameOnStack 19 = .ok (.if_icmp .ge 32, 3) := by decide +kernel
theorem dX8_isSameOnStack_22 : decode cX8_isSameOnStack 22 = .ok (.aload_n 0, 1) := by decide +kernel
theorem dX8_isSameOnStack_23 : decode cX8_isSameOnStack 23 = .ok (.getfield 15, 3) := by decide +kernel
theorem dX8_isSameOnStack_26 : decode cX8_isSameOnStack 26 = .ok (.iload_n 1, 1) := by decide +kernel
theorem dX8_isSameOnStack_27 : decode cX8_isSameOnStack 27 = .ok (.iload 4, 2) := by decide +kernel
theorem dX8_isSameOnStack_29 : decode cX8_isSameOnStack 29 = .ok (.iadd, 1) := by decide +kernel
theorem dX8_isSameOnStack_30 : decode cX8_isSameOnStack 30 = .ok (.iaload, 1) := by decide +kernel
theorem dX8_isSameOnStack_31 : decode cX8_isSameOnStack 31 = .ok (.aload_n 0, 1) := by decide +kernel
theorem dX8_isSameOnStack_32 : decode cX8_isSameOnStack 32 = .ok (.getfield 15, 3) := by decide +kernel
theorem dX8_isSameOnStack_35 : decode cX8_isSameOnStack 35 = .ok (.iload_n 2, 1) := by decide +kernel
theorem dX8_isSameOnStack_36 : decode cX8_isSameOnStack 36 = .ok (.iload 4, 2) := by decide +kernel
theorem dX8_isSameOnStack_38 : decode cX8_isSameOnStack 38 = .ok (.iadd, 1) := by decide +kernel
theorem dX8_isSameOnStack_39 : decode cX8_isSameOnStack 39 = .ok (.iaload, 1) := by decide +kernel
theorem dX8_isSameOnStack_40 : decode cX8_isSameOnStack 40 = .ok (.if_icmp .eq 5, 3) := by decide +kernel
theorem dX8_isSameOnStack_43 : decode cX8_isSameOnStack 43 = .ok (.iconst 0, 1) := by decide +kernel
theorem dX8_isSameOnStack_44 : decode cX8_isSameOnStack 44 = .ok (.ireturn, 1) := by decide +kernel
theorem dX8_isSameOnStack_45 : decode cX8_isSameOnStack 45 = .ok (.iinc 4 1, 3) := by decide +kernel
theorem dX8_isSameOnStack_48 : decode cX8_isSameOnStack 48 = .ok (.goto (-34), 3) := by decide +kernel
theorem dX8_isSameOnStack_51 : decode cX8_isSameOnStack 51 = .ok (.iconst 1, 1) := by decide +kernel
theorem dX8_isSameOnStack_52 : decode cX8_isSameOnStack 52 = .ok (.ireturn, 1) := by decide +kernel
theorem dX8_checkHalf_0 : decode cX8_checkHalf 0 = .ok (.aload_n 0, 1) := by decide +kernel
theorem dX8_checkHalf_1 : decode cX8_checkHalf 1 = .ok (.getfield 125, 3) := by decide +kernel
theorem dX8_checkHalf_4 : decode cX8_checkHalf 4 = .ok (.istore 4, 2) := by decide +kernel
theorem dX8_checkHalf_6 : decode cX8_checkHalf 6 = .ok (.aload_n 0, 1) := by decide +kernel
theorem dX8_checkHalf_7 : decode cX8_checkHalf 7 = .ok (.aload_n 0, 1) := by decide +kernel
theorem dX8_checkHalf_8 : decode cX8_checkHalf 8 = .ok (.getfield 18, 3) := by decide +kernel
theorem dX8_checkHalf_11 : decode cX8_checkHalf 11 = .ok (.getfield 118, 3) := by decide +kernel
theorem dX8_checkHalf_14 : decode cX8_checkHalf 14 = .ok (.iload_n 1, 1) := by decide +kernel
theorem dX8_checkHalf_15 : decode cX8_checkHalf 15 = .ok (.iaload, 1) := by decide +kernel
theorem dX8_checkHalf_16 : decode cX8_checkHalf 16 = .ok (.aload_n 2, 1) := by decide +kernel
theorem dX8_checkHalf_17 : decode cX8_checkHalf 17 = .ok (.iload_n 3, 1) := by decide +kernel
theorem dX8_checkHalf_18 : decode cX8_checkHalf 18 = .ok (.iconst 1, 1) := by decide +kernel
theorem dX8_checkHalf_19 : decode cX8_checkHalf 19 = .ok (.iadd, 1) := by decide +kernel
theorem dX8_checkHalf_20 : decode cX8_checkHalf 20 = .ok (.invokevirtual 129, 3) := by decide +kernel
theorem dX8_checkHalf_23 : decode cX8_checkHalf 23 = .ok (.istore 5, 2) := by decide +kernel
theorem dX8_checkHalf_25 : decode cX8_checkHalf 25 = .ok (.iload 5, 2) := by decide +kernel
theorem dX8_checkHalf_27 : decode cX8_checkHalf 27 = .ok (.ifCond .eq 6, 3) := by decide +kernel
theorem dX8_checkHalf_30 : decode cX8_checkHalf 30 = .ok (.iload 5, 2) := by decide +kernel
theorem dX8_checkHalf_32 : decode cX8_checkHalf 32 = .ok (.ireturn, 1) := by decide +kernel
theorem dX8_checkHalf_33 : decode cX8_checkHalf 33 = .ok (.iload 4, 2) := by decide +kernel
theorem dX8_checkHalf_35 : decode cX8_checkHalf 35 = .ok (.aload_n 0, 1) := by decide +kernel
theorem dX8_checkHalf_36 : decode cX8_checkHalf 36 = .ok (.getfield 125, 3) := by decide +kernel
theorem dX8_checkHalf_39 : decode cX8_checkHalf 39 = .ok (.if_icmp .ge 14, 3) := by decide +kernel
theorem dX8_checkHalf_42 : decode cX8_checkHalf 42 = .ok (.aload_n 0, 1) := by decide +kernel
theorem dX8_checkHalf_43 : decode cX8_checkHalf 43 = .ok (.getfield 15, 3) := by decide +kernel
theorem dX8_checkHalf_46 : decode cX8_checkHalf 46 = .ok (.iload 4, 2) := by decide +kernel
theorem dX8_checkHalf_48 : decode cX8_checkHalf 48 = .ok (.iaload, 1) := by decide +kernel
theorem dX8_checkHalf_49 : decode cX8_checkHalf 49 = .ok (.iconst 1, 1) := by decide +kernel
theorem dX8_checkHalf_50 : decode cX8_checkHalf 50 = .ok (.if_icmp .eq 5, 3) := by decide +kernel
theorem dX8_checkHalf_53 : decode cX8_checkHalf 53 = .ok (.iconst 2, 1) := by decide +kernel
theorem dX8_checkHalf_54 : decode cX8_checkHalf 54 = .ok (.ireturn, 1) := by decide +kernel
theorem dX8_checkHalf_55 : decode cX8_checkHalf 55 = .ok (.aload_n 0, 1) := by decide +kernel
theorem dX8_checkHalf_56 : decode cX8_checkHalf 56 = .ok (.iload 4, 2) := by decide +kernel
theorem dX8_checkHalf_58 : decode cX8_checkHalf 58 = .ok (.iconst 1, 1) := by decide +kernel
theorem dX8_checkHalf_59 : decode cX8_checkHalf 59 = .ok (.iadd, 1) := by decide +kernel
theorem dX8_checkHalf_60 : decode cX8_checkHalf 60 = .ok (.invokevirtual 197, 3) := by decide +kernel
theorem dX8_checkHalf_63 : decode cX8_checkHalf 63 = .ok (.istore 6, 2) := by decide +kernel
theorem dX8_checkHalf_65 : decode cX8_checkHalf 65 = .ok (.aload_n 0, 1) := by decide +kernel
theorem dX8_checkHalf_66 : decode cX8_checkHalf 66 = .ok (.getfield 18, 3) := by decide +kernel
theorem dX8_checkHalf_69 : decode cX8_checkHalf 69 = .ok (.getfield 115, 3) := by decide +kernel
theorem dX8_checkHalf_72 : decode cX8_checkHalf 72 = .ok (.iload_n 1, 1) := by decide +kernel
theorem dX8_checkHalf_73 : decode cX8_checkHalf 73 = .ok (.iaload, 1) := by decide +kernel
theorem dX8_checkHalf_74 : decode cX8_checkHalf 74 = .ok (.iconst 2, 1) := by decide +kernel
theorem dX8_checkHalf_75 : decode cX8_checkHalf 75 = .ok (.if_icmp .ne 18, 3) := by decide +kernel
theorem dX8_checkHalf_78 : decode cX8_checkHalf 78 = .ok (.aload_n 0, 1) := by decide +kernel
theorem dX8_checkHalf_79 : decode cX8_checkHalf 79 = .ok (.iload 4, 2) := by decide +kernel
theorem dX8_checkHalf_81 : decode cX8_checkHalf 81 = .ok (.iload 4, 2) := by decide +kernel
theorem dX8_checkHalf_83 : decode cX8_checkHalf 83 = .ok (.iconst 1, 1) := by decide +kernel
theorem dX8_checkHalf_84 : decode cX8_checkHalf 84 = .ok (.iadd, 1) := by decide +kernel
theorem dX8_checkHalf_85 : decode cX8_checkHalf 85 = .ok (.iload 6, 2) := by decide +kernel
theorem dX8_checkHalf_87 : decode cX8_checkHalf 87 = .ok (.invokevirtual 193, 3) := by decide +kernel
theorem dX8_checkHalf_90 : decode cX8_checkHalf 90 = .ok (.goto 15, 3) := by decide +kernel
theorem dX8_checkHalf_93 : decode cX8_checkHalf 93 = .ok (.aload_n 0, 1) := by decide +kernel
theorem dX8_checkHalf_94 : decode cX8_checkHalf 94 = .ok (.iload 4, 2) := by decide +kernel
theorem dX8_checkHalf_96 : decode cX8_checkHalf 96 = .ok (.iload 6, 2) := by decide +kernel
theorem dX8_checkHalf_98 : decode cX8_checkHalf 98 = .ok (.aload_n 0, 1) := by decide +kernel
theorem dX8_checkHalf_99 : decode cX8_checkHalf 99 = .ok (.getfield 125, 3) := by decide +kernel
theorem dX8_checkHalf_102 : decode cX8_checkHalf 102 = .ok (.invokevirtual 193, 3) := by decide +kernel
theorem dX8_checkHalf_105 : decode cX8_checkHalf 105 = .ok (.iconst 0, 1) := by decide +kernel
theorem dX8_checkHalf_106 : decode cX8_checkHalf 106 = .ok (.ireturn, 1) := by decide +kernel
theorem dX8_endOfType_0 : decode cX8_endOfType 0 = .ok (.iconst 1, 1) := by decide +kernel
theorem dX8_endOfType_1 : decode cX8_endOfType 1 = .ok (.istore_n 2, 1) := by decide +kernel
theorem dX8_endOfType_2 : decode cX8_endOfType 2 = .ok (.iload_n 1, 1) := by decide +kernel
theorem dX8_endOfType_3 : decode cX8_endOfType 3 = .ok (.istore_n 3, 1) := by decide +kernel
theorem dX8_endOfType_4 : decode cX8_endOfType 4 = .ok (.iload_n 2, 1) := by decide +kernel
theorem dX8_endOfType_5 : decode cX8_endOfType 5 = .ok (.ifCond .le 35, 3) := by decide +kernel
theorem dX8_endOfType_8 : decode cX8_endOfType 8 = .ok (.iload_n 3, 1) := by decide +kernel
theorem dX8_endOfType_9 : decode cX8_endOfType 9 = .ok (.aload_n 0, 1) := by decide +kernel
theorem dX8_endOfType_10 : decode cX8_endOfType 10 = .ok (.getfield 125, 3) := by decide +kernel
theorem dX8_endOfType_13 : decode cX8_endOfType 13 = .ok (.if_icmp .ge 27, 3) := by decide +kernel
theorem dX8_endOfType_16 : decode cX8_endOfType 16 = .ok (.iload_n 2, 1) := by decide +kernel
theorem dX8_endOfType_17 : decode cX8_endOfType 17 = .ok (.aload_n 0, 1) := by decide +kernel
theorem dX8_endOfType_18 : decode cX8_endOfType 18 = .ok (.getfield 15, 3) := by decide +kernel
theorem dX8_endOfType_21 : decode cX8_endOfType 21 = .ok (.iload_n 3, 1) := by decide +kernel
theorem dX8_endOfType_22 : decode cX8_endOfType 22 = .ok (.iaload, 1) := by decide +kernel
theorem dX8_endOfType_23 : decode cX8_endOfType 23 = .ok (.iconst 1, 1) := by decide +kernel
theorem dX8_endOfType_24 : decode cX8_endOfType 24 = .ok (.if_icmp .ne 7, 3) := by decide +kernel
theorem dX8_endOfType_27 : decode cX8_endOfType 27 = .ok (.iconst 1, 1) := by decide +kernel
theorem dX8_endOfType_28 : decode cX8_endOfType 28 = .ok (.goto 4, 3) := by decide +kernel
theorem dX8_endOfType_31 : decode cX8_endOfType 31 = .ok (.iconst (-1), 1) := by decide +kernel
theorem dX8_endOfType_32 : decode cX8_endOfType 32 = .ok (.iadd, 1) := by decide +kernel
theorem dX8_endOfType_33 : decode cX8_endOfType 33 = .ok (.istore_n 2, 1) := by decide +kernel
theorem dX8_endOfType_34 : decode cX8_endOfType 34 = .ok (.iinc 3 1, 3) := by decide +kernel
theorem dX8_endOfType_37 : decode cX8_endOfType 37 = .ok (.goto (-33), 3) := by decide +kernel
theorem dX8_endOfType_40 : decode cX8_endOfType 40 = .ok (.iload_n 3, 1) := by decide +kernel
theorem dX8_endOfType_41 : decode cX8_endOfType 41 = .ok (.ireturn, 1) := by decide +kernel
theorem dX8_cutTo_0 : decode cX8_cutTo 0 = .ok (.iload_n 1, 1) := by decide +kernel
theorem dX8_cutTo_1 : decode cX8_cutTo 1 = .ok (.iload_n 2, 1) := by decide +kernel
theorem dX8_cutTo_2 : decode cX8_cutTo 2 = .ok (.if_icmp .gt 41, 3) := by decide +kernel
theorem dX8_cutTo_5 : decode cX8_cutTo 5 = .ok (.iload_n 2, 1) := by decide +kernel
theorem dX8_cutTo_6 : decode cX8_cutTo 6 = .ok (.iload_n 3, 1) := by decide +kernel
theorem dX8_cutTo_7 : decode cX8_cutTo 7 = .ok (.if_icmp .gt 36, 3) := by decide +kernel
theorem dX8_cutTo_10 : decode cX8_cutTo 10 = .ok (.iload_n 3, 1) := by decide +kernel
theorem dX8_cutTo_11 : decode cX8_cutTo 11 = .ok (.aload_n 0, 1) := by decide +kernel
theorem dX8_cutTo_12 : decode cX8_cutTo 12 = .ok (.getfield 125, 3) := by decide +kernel
theorem dX8_cutTo_15 : decode cX8_cutTo 15 = .ok (.if_icmp .gt 28, 3) := by decide +kernel
theorem dX8_cutTo_18 : decode cX8_cutTo 18 = .ok (.aload_n 0, 1) := by decide +kernel
theorem dX8_cutTo_19 : decode cX8_cutTo 19 = .ok (.getfield 15, 3) := by decide +kernel
theorem dX8_cutTo_22 : decode cX8_cutTo 22 = .ok (.iload_n 2, 1) := by decide +kernel
theorem dX8_cutTo_23 : decode cX8_cutTo 23 = .ok (.aload_n 0, 1) := by decide +kernel
theorem dX8_cutTo_24 : decode cX8_cutTo 24 = .ok (.getfield 15, 3) := by decide +kernel
theorem dX8_cutTo_27 : decode cX8_cutTo 27 = .ok (.iload_n 1, 1) := by decide +kernel
theorem dX8_cutTo_28 : decode cX8_cutTo 28 = .ok (.iload_n 3, 1) := by decide +kernel
theorem dX8_cutTo_29 : decode cX8_cutTo 29 = .ok (.iload_n 2, 1) := by decide +kernel
theorem dX8_cutTo_30 : decode cX8_cutTo 30 = .ok (.isub, 1) := by decide +kernel
theorem dX8_cutTo_31 : decode cX8_cutTo 31 = .ok (.invokestatic 200, 3) := by decide +kernel
theorem dX8_cutTo_34 : decode cX8_cutTo 34 = .ok (.aload_n 0, 1) := by decide +kernel
theorem dX8_cutTo_35 : decode cX8_cutTo 35 = .ok (.iload_n 1, 1) := by decide +kernel
theorem dX8_cutTo_36 : decode cX8_cutTo 36 = .ok (.iload_n 3, 1) := by decide +kernel
theorem dX8_cutTo_37 : decode cX8_cutTo 37 = .ok (.iadd, 1) := by decide +kernel
theorem dX8_cutTo_38 : decode cX8_cutTo 38 = .ok (.iload_n 2, 1) := by decide +kernel
theorem dX8_cutTo_39 : decode cX8_cutTo 39 = .ok (.isub, 1) := by decide +kernel
theorem dX8_cutTo_40 : decode cX8_cutTo 40 = .ok (.putfield 125, 3) := by decide +kernel
theorem dX8_cutTo_43 : decode cX8_cutTo 43 = .ok (.return_, 1) := by decide +kernel
theorem dX9_init_0 : decode cX9_init 0 = .ok (.aload_n 0, 1) := by decide +kernel
theorem dX9_init_1 : decode cX9_init 1 = .ok (.invokespecial 1, 3) := by decide +kernel
theorem dX9_init_4 : decode cX9_init 4 = .ok (.aload_n 0, 1) := by decide +kernel
theorem dX9_init_5 : decode cX9_init 5 = .ok (.bipush 32, 2) := by decide +kernel
theorem dX9_init_7 : decode cX9_init 7 = .ok (.newarray .int, 2) := by decide +kernel
theorem dX9_init_9 : decode cX9_init 9 = .ok (.putfield 7, 3) := by decide +kernel
theorem dX9_init_12 : decode cX9_init 12 = .ok (.aload_n 0, 1) := by decide +kernel
theorem dX9_init_13 : decode cX9_init 13 = .ok (.bipush 32, 2) := by decide +kernel
theorem dX9_init_15 : decode cX9_init 15 = .ok (.newarray .int, 2) := by decide +kernel
theorem dX9_init_17 : decode cX9_init 17 = .ok (.putfield 13, 3) := by decide +kernel
theorem dX9_init_20 : decode cX9_init 20 = .ok (.aload_n 0, 1) := by decide +kernel
theorem dX9_init_21 : decode cX9_init 21 = .ok (.bipush 32, 2) := by decide +kernel
theorem dX9_init_23 : decode cX9_init 23 = .ok (.newarray .long, 2) := by decide +kernel
theorem dX9_init_25 : decode cX9_init 25 = .ok (.putfield 16, 3) := by decide +kernel
theorem dX9_init_28 : decode cX9_init 28 = .ok (.aload_n 0, 1) := by decide +kernel
theorem dX9_init_29 : decode cX9_init 29 = .ok (.bipush 32, 2) := by decide +kernel
theorem dX9_init_31 : decode cX9_init 31 = .ok (.newarray .int, 2) := by decide +kernel
theorem dX9_init_33 : decode cX9_init 33 = .ok (.putfield 20, 3) := by decide +kernel
theorem dX9_init_36 : decode cX9_init 36 = .ok (.return_, 1) := by decide +kernel
theorem dX9_add_0 : decode cX9_add 0 = .ok (.aload_n 0, 1) := by decide +kernel
theorem dX9_add_1 : decode cX9_add 1 = .ok (.getfield 23, 3) := by decide +kernel
theorem dX9_add_4 : decode cX9_add 4 = .ok (.aload_n 0, 1) := by decide +kernel
theorem dX9_add_5 : decode cX9_add 5 = .ok (.getfield 7, 3) := by decide +kernel
theorem dX9_add_8 : decode cX9_add 8 = .ok (.arraylength, 1) := by decide +kernel
theorem dX9_add_9 : decode cX9_add 9 = .ok (.if_icmp .lt 75, 3) := by decide +kernel
theorem dX9_add_12 : decode cX9_add 12 = .ok (.aload_n 0, 1) := by decide +kernel
theorem dX9_add_13 : decode cX9_add 13 = .ok (.aload_n 0, 1) := by decide +kernel
theorem dX9_add_14 : decode cX9_add 14 = .ok (.getfield 7, 3) := by decide +kernel
theorem dX9_add_17 : decode cX9_add 17 = .ok (.iconst 2, 1) := by decide +kernel
theorem dX9_add_18 : decode cX9_add 18 = .ok (.aload_n 0, 1) := by decide +kernel
theorem dX9_add_19 : decode cX9_add 19 = .ok (.getfield 7, 3) := by decide +kernel
theorem dX9_add_22 : decode cX9_add 22 = .ok (.arraylength, 1) := by decide +kernel
theorem dX9_add_23 : decode cX9_add 23 = .ok (.imul, 1) := by decide +kernel
theorem dX9_add_24 : decode cX9_add 24 = .ok (.invokestatic 27, 3) := by decide +kernel
theorem dX9_add_27 : decode cX9_add 27 = .ok (.putfield 7, 3) := by decide +kernel
theorem dX9_add_30 : decode cX9_add 30 = .ok (.aload_n 0, 1) := by decide +kernel
theorem dX9_add_31 : decode cX9_add 31 = .ok (.aload_n 0, 1) := by decide +kernel
theorem dX9_add_32 : decode cX9_add 32 = .ok (.getfield 13, 3) := by decide +kernel
theorem dX9_add_35 : decode cX9_add 35 = .ok (.iconst 2, 1) := by decide +kernel
theorem dX9_add_36 : decode cX9_add 36 = .ok (.aload_n 0, 1) := by decide +kernel
theorem dX9_add_37 : decode cX9_add 37 = .ok (.getfield 13, 3) := by decide +kernel
theorem dX9_add_40 : decode cX9_add 40 = .ok (.arraylength, 1) := by decide +kernel
theorem dX9_add_41 : decode cX9_add 41 = .ok (.imul, 1) := by decide +kernel
theorem dX9_add_42 : decode cX9_add 42 = .ok (.invokestatic 27, 3) := by decide +kernel
theorem dX9_add_45 : decode cX9_add 45 = .ok (.putfield 13, 3) := by decide +kernel
theorem dX9_add_48 : decode cX9_add 48 = .ok (.aload_n 0, 1) := by decide +kernel
theorem dX9_add_49 : decode cX9_add 49 = .ok (.aload_n 0, 1) := by decide +kernel
theorem dX9_add_50 : decode cX9_add 50 = .ok (.getfield 16, 3) := by decide +kernel
theorem dX9_add_53 : decode cX9_add 53 = .ok (.iconst 2, 1) := by decide +kernel
theorem dX9_add_54 : decode cX9_add 54 = .ok (.aload_n 0, 1) := by decide +kernel
theorem dX9_add_55 : decode cX9_add 55 = .ok (.getfield 16, 3) := by decide +kernel
theorem dX9_add_58 : decode cX9_add 58 = .ok (.arraylength, 1) := by decide +kernel
theorem dX9_add_59 : decode cX9_add 59 = .ok (.imul, 1) := by decide +kernel
theorem dX9_add_60 : decode cX9_add 60 = .ok (.invokestatic 33, 3) := by decide +kernel
theorem dX9_add_63 : decode cX9_add 63 = .ok (.putfield 16, 3) := by decide +kernel
theorem dX9_add_66 : decode cX9_add 66 = .ok (.aload_n 0, 1) := by decide +kernel
theorem dX9_add_67 : decode cX9_add 67 = .ok (.aload_n 0, 1) := by decide +kernel
theorem dX9_add_68 : decode cX9_add 68 = .ok (.getfield 20, 3) := by decide +kernel
theorem dX9_add_71 : decode cX9_add 71 = .ok (.iconst 2, 1) := by decide +kernel
theorem dX9_add_72 : decode cX9_add 72 = .ok (.aload_n 0, 1) := by decide +kernel
theorem dX9_add_73 : decode cX9_add 73 = .ok (.getfield 20, 3) := by decide +kernel
theorem dX9_add_76 : decode cX9_add 76 = .ok (.arraylength, 1) := by decide +kernel
theorem dX9_add_77 : decode cX9_add 77 = .ok (.imul, 1) := by decide +kernel
theorem dX9_add_78 : decode cX9_add 78 = .ok (.invokestatic 27, 3) := by decide +kernel
theorem dX9_add_81 : decode cX9_add 81 = .ok (.putfield 20, 3) := by decide +kernel
theorem dX9_add_84 : decode cX9_add 84 = .ok (.iload_n 2, 1) := by decide +kernel
theorem dX9_add_85 : decode cX9_add 85 = .ok (.iconst (-1), 1) := by decide +kernel
theorem dX9_add_86 : decode cX9_add 86 = .ok (.if_icmp .ne 7, 3) := by decide +kernel
theorem dX9_add_89 : decode cX9_add 89 = .ok (.iconst 1, 1) := by decide +kernel
theorem dX9_add_90 : decode cX9_add 90 = .ok (.goto 4, 3) := by decide +kernel
theorem dX9_add_93 : decode cX9_add 93 = .ok (.iconst 0, 1) := by decide +kernel
theorem dX9_add_94 : decode cX9_add 94 = .ok (.istore_n 3, 1) := by decide +kernel
theorem dX9_add_95 : decode cX9_add 95 = .ok (.aload_n 0, 1) := by decide +kernel
theorem dX9_add_96 : decode cX9_add 96 = .ok (.getfield 7, 3) := by decide +kernel
theorem dX9_add_99 : decode cX9_add 99 = .ok (.aload_n 0, 1) := by decide +kernel
theorem dX9_add_100 : decode cX9_add 100 = .ok (.getfield 23, 3) := by decide +kernel
theorem dX9_add_103 : decode cX9_add 103 = .ok (.iload_n 1, 1) := by decide +kernel
theorem dX9_add_104 : decode cX9_add 104 = .ok (.iastore, 1) := by decide +kernel
theorem dX9_add_105 : decode cX9_add 105 = .ok (.aload_n 0, 1) := by decide +kernel
theorem dX9_add_106 : decode cX9_add 106 = .ok (.getfield 13, 3) := by decide +kernel
theorem dX9_add_109 : decode cX9_add 109 = .ok (.aload_n 0, 1) := by decide +kernel
theorem dX9_add_110 : decode cX9_add 110 = .ok (.getfield 23, 3) := by decide +kernel
theorem dX9_add_113 : decode cX9_add 113 = .ok (.iload_n 2, 1) := by decide +kernel
theorem dX9_add_114 : decode cX9_add 114 = .ok (.iastore, 1) := by decide +kernel
theorem dX9_add_115 : decode cX9_add 115 = .ok (.aload_n 0, 1) := by decide +kernel
theorem dX9_add_116 : decode cX9_add 116 = .ok (.getfield 16, 3) := by decide +kernel
theorem dX9_add_119 : decode cX9_add 119 = .ok (.aload_n 0, 1) := by decide +kernel
theorem dX9_add_120 : decode cX9_add 120 = .ok (.getfield 23, 3) := by decide +kernel
theorem dX9_add_123 : decode cX9_add 123 = .ok (.iload_n 3, 1) := by decide +kernel
theorem dX9_add_124 : decode cX9_add 124 = .ok (.ifCond .eq 7, 3) := by decide +kernel
theorem dX9_add_127 : decode cX9_add 127 = .ok (.lconst 1, 1) := by decide +kernel
theorem dX9_add_128 : decode cX9_add 128 = .ok (.goto 22, 3) := by decide +kernel
theorem dX9_add_131 : decode cX9_add 131 = .ok (.ldc2_w 36, 3) := by decide +kernel
theorem dX9_add_134 : decode cX9_add 134 = .ok (.aload_n 0, 1) := by decide +kernel
theorem dX9_add_135 : decode cX9_add 135 = .ok (.getfield 16, 3) := by decide +kernel
theorem dX9_add_138 : decode cX9_add 138 = .ok (.iload_n 1, 1) := by decide +kernel
theorem dX9_add_139 : decode cX9_add 139 = .ok (.laload, 1) := by decide +kernel
theorem dX9_add_140 : decode cX9_add 140 = .ok (.aload_n 0, 1) := by decide +kernel
theorem dX9_add_141 : decode cX9_add 141 = .ok (.getfield 16, 3) := by decide +kernel
theorem dX9_add_144 : decode cX9_add 144 = .ok (.iload_n 2, 1) := by decide +kernel
theorem dX9_add_145 : decode cX9_add 145 = .ok (.laload, 1) := by decide +kernel
theorem dX9_add_146 : decode cX9_add 146 = .ok (.ladd, 1) := by decide +kernel
theorem dX9_add_147 : decode cX9_add 147 = .ok (.invokestatic 38, 3) := by decide +kernel
theorem dX9_add_150 : decode cX9_add 150 = .ok (.lastore, 1) := by decide +kernel
theorem dX9_add_151 : decode cX9_add 151 = .ok (.aload_n 0, 1) := by decide +kernel
theorem dX9_add_152 : decode cX9_add 152 = .ok (.getfield 20, 3) := by decide +kernel
theorem dX9_add_155 : decode cX9_add 155 = .ok (.aload_n 0, 1) := by decide +kernel
theorem dX9_add_156 : decode cX9_add 156 = .ok (.getfield 23, 3) := by decide +kernel
theorem dX9_add_159 : decode cX9_add 159 = .ok (.iload_n 3, 1) := by decide +kernel
theorem dX9_add_160 : decode cX9_add 160 = .ok (.ifCond .eq 7, 3) := by decide +kernel
theorem dX9_add_163 : decode cX9_add 163 = .ok (.iconst 1, 1) := by decide +kernel
theorem dX9_add_164 : decode cX9_add 164 = .ok (.goto 16, 3) := by decide +kernel
theorem dX9_add_167 : decode cX9_add 167 = .ok (.aload_n 0, 1) := by decide +kernel
theorem dX9_add_168 : decode cX9_add 168 = .ok (.getfield 20, 3) := by decide +kernel
theorem dX9_add_171 : decode cX9_add 171 = .ok (.iload_n 1, 1) := by decide +kernel
theorem dX9_add_172 : decode cX9_add 172 = .ok (.iaload, 1) := by decide +kernel
theorem dX9_add_173 : decode cX9_add 173 = .ok (.aload_n 0, 1) := by decide +kernel
theorem dX9_add_174 : decode cX9_add 174 = .ok (.getfield 20, 3) := by decide +kernel
theorem dX9_add_177 : decode cX9_add 177 = .ok (.iload_n 2, 1) := by decide +kernel
theorem dX9_add_178 : decode cX9_add 178 = .ok (.iaload, 1) := by decide +kernel
theorem dX9_add_179 : decode cX9_add 179 = .ok (.iadd, 1) := by decide +kernel
theorem dX9_add_180 : decode cX9_add 180 = .ok (.iastore, 1) := by decide +kernel
theorem dX9_add_181 : decode cX9_add 181 = .ok (.aload_n 0, 1) := by decide +kernel
theorem dX9_add_182 : decode cX9_add 182 = .ok (.dup, 1) := by decide +kernel
theorem dX9_add_183 : decode cX9_add 183 = .ok (.getfield 23, 3) := by decide +kernel
theorem dX9_add_186 : decode cX9_add 186 = .ok (.iconst 1, 1) := by decide +kernel
theorem dX9_add_187 : decode cX9_add 187 = .ok (.iadd, 1) := by decide +kernel
theorem dX9_add_188 : decode cX9_add 188 = .ok (.putfield 23, 3) := by decide +kernel
theorem dX9_add_191 : decode cX9_add 191 = .ok (.aload_n 0, 1) := by decide +kernel
theorem dX9_add_192 : decode cX9_add 192 = .ok (.getfield 23, 3) := by decide +kernel
theorem dX9_add_195 : decode cX9_add 195 = .ok (.iconst 1, 1) := by decide +kernel
theorem dX9_add_196 : decode cX9_add 196 = .ok (.isub, 1) := by decide +kernel
theorem dX9_add_197 : decode cX9_add 197 = .ok (.ireturn, 1) := by decide +kernel
theorem dX9_isPair_0 : decode cX9_isPair 0 = .ok (.aload_n 0, 1) := by decide +kernel
theorem dX9_isPair_1 : decode cX9_isPair 1 = .ok (.getfield 13, 3) := by decide +kernel
theorem dX9_isPair_4 : decode cX9_isPair 4 = .ok (.iload_n 1, 1) := by decide +kernel
theorem dX9_isPair_5 : decode cX9_isPair 5 = .ok (.iaload, 1) := by decide +kernel
theorem dX9_isPair_6 : decode cX9_isPair 6 = .ok (.iconst (-1), 1) := by decide +kernel
theorem dX9_isPair_7 : decode cX9_isPair 7 = .ok (.if_icmp .eq 7, 3) := by decide +kernel
theorem dX9_isPair_10 : decode cX9_isPair 10 = .ok (.iconst 1, 1) := by decide +kernel
theorem dX9_isPair_11 : decode cX9_isPair 11 = .ok (.goto 4, 3) := by decide +kernel
theorem dX9_isPair_14 : decode cX9_isPair 14 = .ok (.iconst 0, 1) := by decide +kernel
theorem dX9_isPair_15 : decode cX9_isPair 15 = .ok (.ireturn, 1) := by decide +kernel
theorem dX9_firstOf_0 : decode cX9_firstOf 0 = .ok (.aload_n 0, 1) := by decide +kernel
theorem dX9_firstOf_1 : decode cX9_firstOf 1 = .ok (.getfield 7, 3) := by decide +kernel
theorem dX9_firstOf_4 : decode cX9_firstOf 4 = .ok (.iload_n 1, 1) := by decide +kernel
theorem dX9_firstOf_5 : decode cX9_firstOf 5 = .ok (.iaload, 1) := by decide +kernel
theorem dX9_firstOf_6 : decode cX9_firstOf 6 = .ok (.ireturn, 1) := by decide +kernel
theorem dX9_secondOf_0 : decode cX9_secondOf 0 = .ok (.aload_n 0, 1) := by decide +kernel
theorem dX9_secondOf_1 : decode cX9_secondOf 1 = .ok (.getfield 13, 3) := by decide +kernel
theorem dX9_secondOf_4 : decode cX9_secondOf 4 = .ok (.iload_n 1, 1) := by decide +kernel
theorem dX9_secondOf_5 : decode cX9_secondOf 5 = .ok (.iaload, 1) := by decide +kernel
theorem dX9_secondOf_6 : decode cX9_secondOf 6 = .ok (.ireturn, 1) := by decide +kernel
theorem dX9_countOf_0 : decode cX9_countOf 0 = .ok (.aload_n 0, 1) := by decide +kernel
theorem dX9_countOf_1 : decode cX9_countOf 1 = .ok (.getfield 16, 3) := by decide +kernel
theorem dX9_countOf_4 : decode cX9_countOf 4 = .ok (.iload_n 1, 1) := by decide +kernel
theorem dX9_countOf_5 : decode cX9_countOf 5 = .ok (.laload, 1) := by decide +kernel
theorem dX9_countOf_6 : decode cX9_countOf 6 = .ok (.lreturn, 1) := by decide +kernel
theorem dX9_entryOf_0 : decode cX9_entryOf 0 = .ok (.aload_n 0, 1) := by decide +kernel
theorem dX9_entryOf_1 : decode cX9_entryOf 1 = .ok (.iload_n 1, 1) := by decide +kernel
theorem dX9_entryOf_2 : decode cX9_entryOf 2 = .ok (.invokevirtual 44, 3) := by decide +kernel
theorem dX9_entryOf_5 : decode cX9_entryOf 5 = .ok (.ifCond .eq 12, 3) := by decide +kernel
theorem dX9_entryOf_8 : decode cX9_entryOf 8 = .ok (.aload_n 0, 1) := by decide +kernel
theorem dX9_entryOf_9 : decode cX9_entryOf 9 = .ok (.getfield 20, 3) := by decide +kernel
theorem dX9_entryOf_12 : decode cX9_entryOf 12 = .ok (.iload_n 1, 1) := by decide +kernel
theorem dX9_entryOf_13 : decode cX9_entryOf 13 = .ok (.iaload, 1) := by decide +kernel
theorem dX9_entryOf_14 : decode cX9_entryOf 14 = .ok (.goto 9, 3) := by decide +kernel
theorem dX9_entryOf_17 : decode cX9_entryOf 17 = .ok (.aload_n 0, 1) := by decide +kernel
theorem dX9_entryOf_18 : decode cX9_entryOf 18 = .ok (.getfield 7, 3) := by decide +kernel
theorem dX9_entryOf_21 : decode cX9_entryOf 21 = .ok (.iload_n 1, 1) := by decide +kernel
theorem dX9_entryOf_22 : decode cX9_entryOf 22 = .ok (.iaload, 1) := by decide +kernel
theorem dX9_entryOf_23 : decode cX9_entryOf 23 = .ok (.ireturn, 1) := by decide +kernel
theorem dX9_numberAt_0 : decode cX9_numberAt 0 = .ok (.iload_n 1, 1) := by decide +kernel
theorem dX9_numberAt_1 : decode cX9_numberAt 1 = .ok (.istore_n 3, 1) := by decide +kernel
theorem dX9_numberAt_2 : decode cX9_numberAt 2 = .ok (.iload_n 2, 1) := by decide +kernel
theorem dX9_numberAt_3 : decode cX9_numberAt 3 = .ok (.i2l, 1) := by decide +kernel
theorem dX9_numberAt_4 : decode cX9_numberAt 4 = .ok (.lstore 4, 2) := by decide +kernel
theorem dX9_numberAt_6 : decode cX9_numberAt 6 = .ok (.iconst 0, 1) := by decide +kernel
theorem dX9_numberAt_7 : decode cX9_numberAt 7 = .ok (.istore 6, 2) := by decide +kernel
theorem dX9_numberAt_9 : decode cX9_numberAt 9 = .ok (.iload 6, 2) := by decide +kernel
theorem dX9_numberAt_11 : decode cX9_numberAt 11 = .ok (.aload_n 0, 1) := by decide +kernel
theorem dX9_numberAt_12 : decode cX9_numberAt 12 = .ok (.getfield 23, 3) := by decide +kernel
theorem dX9_numberAt_15 : decode cX9_numberAt 15 = .ok (.if_icmp .ge 62, 3) := by decide +kernel
theorem dX9_numberAt_18 : decode cX9_numberAt 18 = .ok (.aload_n 0, 1) := by decide +kernel
theorem dX9_numberAt_19 : decode cX9_numberAt 19 = .ok (.iload_n 3, 1) := by decide +kernel
theorem dX9_numberAt_20 : decode cX9_numberAt 20 = .ok (.invokevirtual 44, 3) := by decide +kernel
theorem dX9_numberAt_23 : decode cX9_numberAt 23 = .ok (.ifCond .eq 54, 3) := by decide +kernel
theorem dX9_numberAt_26 : decode cX9_numberAt 26 = .ok (.aload_n 0, 1) := by decide +kernel
theorem dX9_numberAt_27 : decode cX9_numberAt 27 = .ok (.getfield 16, 3) := by decide +kernel
theorem dX9_numberAt_30 : decode cX9_numberAt 30 = .ok (.aload_n 0, 1) := by decide +kernel
theorem dX9_numberAt_31 : decode cX9_numberAt 31 = .ok (.getfield 7, 3) := by decide +kernel
theorem dX9_numberAt_34 : decode cX9_numberAt 34 = .ok (.iload_n 3, 1) := by decide +kernel
theorem dX9_numberAt_35 : decode cX9_numberAt 35 = .ok (.iaload, 1) := by decide +kernel
theorem dX9_numberAt_36 : decode cX9_numberAt 36 = .ok (.laload, 1) := by decide +kernel
theorem dX9_numberAt_37 : decode cX9_numberAt 37 = .ok (.lstore 7, 2) := by decide +kernel
theorem dX9_numberAt_39 : decode cX9_numberAt 39 = .ok (.lload 4, 2) := by decide +kernel
theorem dX9_numberAt_41 : decode cX9_numberAt 41 = .ok (.lload 7, 2) := by decide +kernel
theorem dX9_numberAt_43 : decode cX9_numberAt 43 = .ok (.lcmp, 1) := by decide +kernel
theorem dX9_numberAt_44 : decode cX9_numberAt 44 = .ok (.ifCond .ge 13, 3) := by decide +kernel
theorem dX9_numberAt_47 : decode cX9_numberAt 47 = .ok (.aload_n 0, 1) := by decide +kernel
theorem dX9_numberAt_48 : decode cX9_numberAt 48 = .ok (.getfield 7, 3) := by decide +kernel
theorem dX9_numberAt_51 : decode cX9_numberAt 51 = .ok (.iload_n 3, 1) := by decide +kernel
theorem dX9_numberAt_52 : decode cX9_numberAt 52 = .ok (.iaload, 1) := by decide +kernel
theorem dX9_numberAt_53 : decode cX9_numberAt 53 = .ok (.istore_n 3, 1) := by decide +kernel
theorem dX9_numberAt_54 : decode cX9_numberAt 54 = .ok (.goto 17, 3) := by decide +kernel
theorem dX9_numberAt_57 : decode cX9_numberAt 57 = .ok (.lload 4, 2) := by decide +kernel
theorem dX9_numberAt_59 : decode cX9_numberAt 59 = .ok (.lload 7, 2) := by decide +kernel
theorem dX9_numberAt_61 : decode cX9_numberAt 61 = .ok (.lsub, 1) := by decide +kernel
theorem dX9_numberAt_62 : decode cX9_numberAt 62 = .ok (.lstore 4, 2) := by decide +kernel
theorem dX9_numberAt_64 : decode cX9_numberAt 64 = .ok (.aload_n 0, 1) := by decide +kernel
theorem dX9_numberAt_65 : decode cX9_numberAt 65 = .ok (.getfield 13, 3) := by decide +kernel
theorem dX9_numberAt_68 : decode cX9_numberAt 68 = .ok (.iload_n 3, 1) := by decide +kernel
theorem dX9_numberAt_69 : decode cX9_numberAt 69 = .ok (.iaload, 1) := by decide +kernel
theorem dX9_numberAt_70 : decode cX9_numberAt 70 = .ok (.istore_n 3, 1) := by decide +kernel
theorem dX9_numberAt_71 : decode cX9_numberAt 71 = .ok (.iinc 6 1, 3) := by decide +kernel
theorem dX9_numberAt_74 : decode cX9_numberAt 74 = .ok (.goto (-65), 3) := by decide +kernel
theorem dX9_numberAt_77 : decode cX9_numberAt 77 = .ok (.aload_n 0, 1) := by decide +kernel
theorem dX9_numberAt_78 : decode cX9_numberAt 78 = .ok (.getfield 7, 3) := by decide +kernel
theorem dX9_numberAt_81 : decode cX9_numberAt 81 = .ok (.iload_n 3, 1) := by decide +kernel
theorem dX9_numberAt_82 : decode cX9_numberAt 82 = .ok (.iaload, 1) := by decide +kernel
theorem dX9_numberAt_83 : decode cX9_numberAt 83 = .ok (.ireturn, 1) := by decide +kernel
theorem dX10_init_0 : decode cX10_init 0 = .ok (.aload_n 0, 1) := by decide +kernel
theorem dX10_init_1 : decode cX10_init 1 = .ok (.invokespecial 3, 3) := by decide +kernel
theorem dX10_init_4 : decode cX10_init 4 = .ok (.aload_n 0, 1) := by decide +kernel
theorem dX10_init_5 : decode cX10_init 5 = .ok (.bipush 6, 2) := by decide +kernel
theorem dX10_init_7 : decode cX10_init 7 = .ok (.newarray .int, 2) := by decide +kernel
theorem dX10_init_9 : decode cX10_init 9 = .ok (.putfield 9, 3) := by decide +kernel
theorem dX10_init_12 : decode cX10_init 12 = .ok (.aload_n 0, 1) := by decide +kernel
theorem dX10_init_13 : decode cX10_init 13 = .ok (.bipush 10, 2) := by decide +kernel
theorem dX10_init_15 : decode cX10_init 15 = .ok (.newarray .int, 2) := by decide +kernel
theorem dX10_init_17 : decode cX10_init 17 = .ok (.putfield 15, 3) := by decide +kernel
theorem dX10_init_20 : decode cX10_init 20 = .ok (.aload_n 0, 1) := by decide +kernel
theorem dX10_init_21 : decode cX10_init 21 = .ok (.bipush 10, 2) := by decide +kernel
theorem dX10_init_23 : decode cX10_init 23 = .ok (.newarray .int, 2) := by decide +kernel
theorem dX10_init_25 : decode cX10_init 25 = .ok (.putfield 18, 3) := by decide +kernel
theorem dX10_init_28 : decode cX10_init 28 = .ok (.aload_n 0, 1) := by decide +kernel
theorem dX10_init_29 : decode cX10_init 29 = .ok (.bipush 10, 2) := by decide +kernel
theorem dX10_init_31 : decode cX10_init 31 = .ok (.newarray .int, 2) := by decide +kernel
theorem dX10_init_33 : decode cX10_init 33 = .ok (.putfield 21, 3) := by decide +kernel
theorem dX10_init_36 : decode cX10_init 36 = .ok (.aload_n 0, 1) := by decide +kernel
theorem dX10_init_37 : decode cX10_init 37 = .ok (.getfield 9, 3) := by decide +kernel
theorem dX10_init_40 : decode cX10_init 40 = .ok (.bipush (-2), 2) := by decide +kernel
theorem dX10_init_42 : decode cX10_init 42 = .ok (.invokestatic 24, 3) := by decide +kernel
theorem dX10_init_45 : decode cX10_init 45 = .ok (.aload_n 0, 1) := by decide +kernel
theorem dX10_init_46 : decode cX10_init 46 = .ok (.getfield 15, 3) := by decide +kernel
theorem dX10_init_49 : decode cX10_init 49 = .ok (.bipush (-2), 2) := by decide +kernel
theorem dX10_init_51 : decode cX10_init 51 = .ok (.invokestatic 24, 3) := by decide +kernel
theorem dX10_init_54 : decode cX10_init 54 = .ok (.return_, 1) := by decide +kernel
theorem dX10_copy_0 : decode cX10_copy 0 = .ok (.aload_n 1, 1) := by decide +kernel
theorem dX10_copy_1 : decode cX10_copy 1 = .ok (.getfield 9, 3) := by decide +kernel
theorem dX10_copy_4 : decode cX10_copy 4 = .ok (.iconst 0, 1) := by decide +kernel
theorem dX10_copy_5 : decode cX10_copy 5 = .ok (.aload_n 0, 1) := by decide +kernel
theorem dX10_copy_6 : decode cX10_copy 6 = .ok (.getfield 9, 3) := by decide +kernel
theorem dX10_copy_9 : decode cX10_copy 9 = .ok (.iconst 0, 1) := by decide +kernel
theorem dX10_copy_10 : decode cX10_copy 10 = .ok (.bipush 6, 2) := by decide +kernel
theorem dX10_copy_12 : decode cX10_copy 12 = .ok (.invokestatic 30, 3) := by decide +kernel
theorem dX10_copy_15 : decode cX10_copy 15 = .ok (.aload_n 1, 1) := by decide +kernel
theorem dX10_copy_16 : decode cX10_copy 16 = .ok (.getfield 15, 3) := by decide +kernel
theorem dX10_copy_19 : decode cX10_copy 19 = .ok (.iconst 0, 1) := by decide +kernel
theorem dX10_copy_20 : decode cX10_copy 20 = .ok (.aload_n 0, 1) := by decide +kernel
theorem dX10_copy_21 : decode cX10_copy 21 = .ok (.getfield 15, 3) := by decide +kernel
theorem dX10_copy_24 : decode cX10_copy 24 = .ok (.iconst 0, 1) := by decide +kernel
theorem dX10_copy_25 : decode cX10_copy 25 = .ok (.bipush 10, 2) := by decide +kernel
theorem dX10_copy_27 : decode cX10_copy 27 = .ok (.invokestatic 30, 3) := by decide +kernel
theorem dX10_copy_30 : decode cX10_copy 30 = .ok (.aload_n 1, 1) := by decide +kernel
theorem dX10_copy_31 : decode cX10_copy 31 = .ok (.getfield 18, 3) := by decide +kernel
theorem dX10_copy_34 : decode cX10_copy 34 = .ok (.iconst 0, 1) := by decide +kernel
theorem dX10_copy_35 : decode cX10_copy 35 = .ok (.aload_n 0, 1) := by decide +kernel
theorem dX10_copy_36 : decode cX10_copy 36 = .ok (.getfield 18, 3) := by decide +kernel
theorem dX10_copy_39 : decode cX10_copy 39 = .ok (.iconst 0, 1) := by decide +kernel
theorem dX10_copy_40 : decode cX10_copy 40 = .ok (.bipush 10, 2) := by decide +kernel
theorem dX10_copy_42 : decode cX10_copy 42 = .ok (.invokestatic 30, 3) := by decide +kernel
theorem dX10_copy_45 : decode cX10_copy 45 = .ok (.aload_n 1, 1) := by decide +kernel
theorem dX10_copy_46 : decode cX10_copy 46 = .ok (.getfield 21, 3) := by decide +kernel
theorem dX10_copy_49 : decode cX10_copy 49 = .ok (.iconst 0, 1) := by decide +kernel
theorem dX10_copy_50 : decode cX10_copy 50 = .ok (.aload_n 0, 1) := by decide +kernel
theorem dX10_copy_51 : decode cX10_copy 51 = .ok (.getfield 21, 3) := by decide +kernel
theorem dX10_copy_54 : decode cX10_copy 54 = .ok (.iconst 0, 1) := by decide +kernel
theorem dX10_copy_55 : decode cX10_copy 55 = .ok (.bipush 10, 2) := by decide +kernel
theorem dX10_copy_57 : decode cX10_copy 57 = .ok (.invokestatic 30, 3) := by decide +kernel
theorem dX10_copy_60 : decode cX10_copy 60 = .ok (.return_, 1) := by decide +kernel
theorem dX10_hasValue_0 : decode cX10_hasValue 0 = .ok (.aload_n 0, 1) := by decide +kernel
theorem dX10_hasValue_1 : decode cX10_hasValue 1 = .ok (.getfield 15, 3) := by decide +kernel
theorem dX10_hasValue_4 : decode cX10_hasValue 4 = .ok (.iload_n 1, 1) := by decide +kernel
theorem dX10_hasValue_5 : decode cX10_hasValue 5 = .ok (.iaload, 1) := by decide +kernel
theorem dX10_hasValue_6 : decode cX10_hasValue 6 = .ok (.bipush (-2), 2) := by decide +kernel
theorem dX10_hasValue_8 : decode cX10_hasValue 8 = .ok (.if_icmp .eq 7, 3) := by decide +kernel
theorem dX10_hasValue_11 : decode cX10_hasValue 11 = .ok (.iconst 1, 1) := by decide +kernel
theorem dX10_hasValue_12 : decode cX10_hasValue 12 = .ok (.goto 4, 3) := by decide +kernel
theorem dX10_hasValue_15 : decode cX10_hasValue 15 = .ok (.iconst 0, 1) := by decide +kernel
theorem dX10_hasValue_16 : decode cX10_hasValue 16 = .ok (.ireturn, 1) := by decide +kernel
theorem dX10_isDefinition_0 : decode cX10_isDefinition 0 = .ok (.aload_n 0, 1) := by decide +kernel
theorem dX10_isDefinition_1 : decode cX10_isDefinition 1 = .ok (.iload_n 1, 1) := by decide +kernel
theorem dX10_isDefinition_2 : decode cX10_isDefinition 2 = .ok (.invokevirtual 36, 3) := by decide +kernel
theorem dX10_isDefinition_5 : decode cX10_isDefinition 5 = .ok (.ifCond .eq 17, 3) := by decide +kernel
theorem dX10_isDefinition_8 : decode cX10_isDefinition 8 = .ok (.aload_n 0, 1) := by decide +kernel
theorem dX10_isDefinition_9 : decode cX10_isDefinition 9 = .ok (.getfield 18, 3) := by decide +kernel
theorem dX10_isDefinition_12 : decode cX10_isDefinition 12 = .ok (.iload_n 1, 1) := by decide +kernel
theorem dX10_isDefinition_13 : decode cX10_isDefinition 13 = .ok (.iaload, 1) := by decide +kernel
theorem dX10_isDefinition_14 : decode cX10_isDefinition 14 = .ok (.iconst (-1), 1) := by decide +kernel
theorem dX10_isDefinition_15 : decode cX10_isDefinition 15 = .ok (.if_icmp .eq 7, 3) := by decide +kernel
theorem dX10_isDefinition_18 : decode cX10_isDefinition 18 = .ok (.iconst 1, 1) := by decide +kernel
theorem dX10_isDefinition_19 : decode cX10_isDefinition 19 = .ok (.goto 4, 3) := by decide +kernel
theorem dX10_isDefinition_22 : decode cX10_isDefinition 22 = .ok (.iconst 0, 1) := by decide +kernel
theorem dX10_isDefinition_23 : decode cX10_isDefinition 23 = .ok (.ireturn, 1) := by decide +kernel
theorem dX10_isGhost_0 : decode cX10_isGhost 0 = .ok (.aload_n 0, 1) := by decide +kernel
theorem dX10_isGhost_1 : decode cX10_isGhost 1 = .ok (.getfield 21, 3) := by decide +kernel
theorem dX10_isGhost_4 : decode cX10_isGhost 4 = .ok (.iload_n 1, 1) := by decide +kernel
theorem dX10_isGhost_5 : decode cX10_isGhost 5 = .ok (.iaload, 1) := by decide +kernel
theorem dX10_isGhost_6 : decode cX10_isGhost 6 = .ok (.iconst 4, 1) := by decide +kernel
theorem dX10_isGhost_7 : decode cX10_isGhost 7 = .ok (.iand, 1) := by decide +kernel
theorem dX10_isGhost_8 : decode cX10_isGhost 8 = .ok (.ifCond .eq 7, 3) := by decide +kernel
theorem dX10_isGhost_11 : decode cX10_isGhost 11 = .ok (.iconst 1, 1) := by decide +kernel
theorem dX10_isGhost_12 : decode cX10_isGhost 12 = .ok (.goto 4, 3) := by decide +kernel
theorem dX10_isGhost_15 : decode cX10_isGhost 15 = .ok (.iconst 0, 1) := by decide +kernel
theorem dX10_isGhost_16 : decode cX10_isGhost 16 = .ok (.ireturn, 1) := by decide +kernel
theorem dX10_typeNames_0 : decode cX10_typeNames 0 = .ok (.iconst 0, 1) := by decide +kernel
theorem dX10_typeNames_1 : decode cX10_typeNames 1 = .ok (.istore_n 1, 1) := by decide +kernel
theorem dX10_typeNames_2 : decode cX10_typeNames 2 = .ok (.iconst 0, 1) := by decide +kernel
theorem dX10_typeNames_3 : decode cX10_typeNames 3 = .ok (.istore_n 2, 1) := by decide +kernel
theorem dX10_typeNames_4 : decode cX10_typeNames 4 = .ok (.iload_n 2, 1) := by decide +kernel
theorem dX10_typeNames_5 : decode cX10_typeNames 5 = .ok (.bipush 6, 2) := by decide +kernel
theorem dX10_typeNames_7 : decode cX10_typeNames 7 = .ok (.if_icmp .ge 30, 3) := by decide +kernel
theorem dX10_typeNames_10 : decode cX10_typeNames 10 = .ok (.iload_n 1, 1) := by decide +kernel
theorem dX10_typeNames_11 : decode cX10_typeNames 11 = .ok (.aload_n 0, 1) := by decide +kernel
theorem dX10_typeNames_12 : decode cX10_typeNames 12 = .ok (.getfield 9, 3) := by decide +kernel
theorem dX10_typeNames_15 : decode cX10_typeNames 15 = .ok (.iload_n 2, 1) := by decide +kernel
theorem dX10_typeNames_16 : decode cX10_typeNames 16 = .ok (.iaload, 1) := by decide +kernel
theorem dX10_typeNames_17 : decode cX10_typeNames 17 = .ok (.bipush (-2), 2) := by decide +kernel
theorem dX10_typeNames_19 : decode cX10_typeNames 19 = .ok (.if_icmp .ne 7, 3) := by decide +kernel
theorem dX10_typeNames_22 : decode cX10_typeNames 22 = .ok (.iconst 0, 1) := by decide +kernel
theorem dX10_typeNames_23 : decode cX10_typeNames 23 = .ok (.goto 6, 3) := by decide +kernel
theorem dX10_typeNames_26 : decode cX10_typeNames 26 = .ok (.iconst 1, 1) := by decide +kernel
theorem dX10_typeNames_27 : decode cX10_typeNames 27 = .ok (.iload_n 2, 1) := by decide +kernel
theorem dX10_typeNames_28 : decode cX10_typeNames 28 = .ok (.ishl, 1) := by decide +kernel
theorem dX10_typeNames_29 : decode cX10_typeNames 29 = .ok (.ior, 1) := by decide +kernel
theorem dX10_typeNames_30 : decode cX10_typeNames 30 = .ok (.istore_n 1, 1) := by decide +kernel
theorem dX10_typeNames_31 : decode cX10_typeNames 31 = .ok (.iinc 2 1, 3) := by decide +kernel
theorem dX10_typeNames_34 : decode cX10_typeNames 34 = .ok (.goto (-30), 3) := by decide +kernel
theorem dX10_typeNames_37 : decode cX10_typeNames 37 = .ok (.iload_n 1, 1) := by decide +kernel
theorem dX10_typeNames_38 : decode cX10_typeNames 38 = .ok (.ireturn, 1) := by decide +kernel
theorem dX10_ghostNames_0 : decode cX10_ghostNames 0 = .ok (.iconst 0, 1) := by decide +kernel
theorem dX10_ghostNames_1 : decode cX10_ghostNames 1 = .ok (.istore_n 1, 1) := by decide +kernel
theorem dX10_ghostNames_2 : decode cX10_ghostNames 2 = .ok (.iconst 0, 1) := by decide +kernel
theorem dX10_ghostNames_3 : decode cX10_ghostNames 3 = .ok (.istore_n 2, 1) := by decide +kernel
theorem dX10_ghostNames_4 : decode cX10_ghostNames 4 = .ok (.iload_n 2, 1) := by decide +kernel
theorem dX10_ghostNames_5 : decode cX10_ghostNames 5 = .ok (.bipush 10, 2) := by decide +kernel
theorem dX10_ghostNames_7 : decode cX10_ghostNames 7 = .ok (.if_icmp .ge 35, 3) := by decide +kernel
theorem dX10_ghostNames_10 : decode cX10_ghostNames 10 = .ok (.iload_n 1, 1) := by decide +kernel
theorem dX10_ghostNames_11 : decode cX10_ghostNames 11 = .ok (.aload_n 0, 1) := by decide +kernel
theorem dX10_ghostNames_12 : decode cX10_ghostNames 12 = .ok (.iload_n 2, 1) := by decide +kernel
theorem dX10_ghostNames_13 : decode cX10_ghostNames 13 = .ok (.invokevirtual 36, 3) := by decide +kernel
theorem dX10_ghostNames_16 : decode cX10_ghostNames 16 = .ok (.ifCond .eq 17, 3) := by decide +kernel
theorem dX10_ghostNames_19 : decode cX10_ghostNames 19 = .ok (.aload_n 0, 1) := by decide +kernel
theorem dX10_ghostNames_20 : decode cX10_ghostNames 20 = .ok (.iload_n 2, 1) := by decide +kernel
theorem dX10_ghostNames_21 : decode cX10_ghostNames 21 = .ok (.invokevirtual 40, 3) := by decide +kernel
theorem dX10_ghostNames_24 : decode cX10_ghostNames 24 = .ok (.ifCond .eq 9, 3) := by decide +kernel
theorem dX10_ghostNames_27 : decode cX10_ghostNames 27 = .ok (.iconst 1, 1) := by decide +kernel
theorem dX10_ghostNames_28 : decode cX10_ghostNames 28 = .ok (.iload_n 2, 1) := by decide +kernel
theorem dX10_ghostNames_29 : decode cX10_ghostNames 29 = .ok (.ishl, 1) := by decide +kernel
theorem dX10_ghostNames_30 : decode cX10_ghostNames 30 = .ok (.goto 4, 3) := by decide +kernel
theorem dX10_ghostNames_33 : decode cX10_ghostNames 33 = .ok (.iconst 0, 1) := by decide +kernel
theorem dX10_ghostNames_34 : decode cX10_ghostNames 34 = .ok (.ior, 1) := by decide +kernel
theorem dX10_ghostNames_35 : decode cX10_ghostNames 35 = .ok (.istore_n 1, 1) := by decide +kernel
theorem dX10_ghostNames_36 : decode cX10_ghostNames 36 = .ok (.iinc 2 1, 3) := by decide +kernel
theorem dX10_ghostNames_39 : decode cX10_ghostNames 39 = .ok (.goto (-35), 3) := by decide +kernel
theorem dX10_ghostNames_42 : decode cX10_ghostNames 42 = .ok (.iload_n 1, 1) := by decide +kernel
theorem dX10_ghostNames_43 : decode cX10_ghostNames 43 = .ok (.ireturn, 1) := by decide +kernel
theorem dX11_init_0 : decode cX11_init 0 = .ok (.aload_n 0, 1) := by decide +kernel
theorem dX11_init_1 : decode cX11_init 1 = .ok (.invokespecial 3, 3) := by decide +kernel
theorem dX11_init_4 : decode cX11_init 4 = .ok (.aload_n 0, 1) := by decide +kernel
theorem dX11_init_5 : decode cX11_init 5 = .ok (.new 9, 3) := by decide +kernel
theorem dX11_init_8 : decode cX11_init 8 = .ok (.dup, 1) := by decide +kernel
theorem dX11_init_9 : decode cX11_init 9 = .ok (.invokespecial 11, 3) := by decide +kernel
theorem dX11_init_12 : decode cX11_init 12 = .ok (.putfield 12, 3) := by decide +kernel
theorem dX11_init_15 : decode cX11_init 15 = .ok (.aload_n 0, 1) := by decide +kernel
theorem dX11_init_16 : decode cX11_init 16 = .ok (.new 16, 3) := by decide +kernel
theorem dX11_init_19 : decode cX11_init 19 = .ok (.dup, 1) := by decide +kernel
theorem dX11_init_20 : decode cX11_init 20 = .ok (.aload_n 0, 1) := by decide +kernel
theorem dX11_init_21 : decode cX11_init 21 = .ok (.getfield 12, 3) := by decide +kernel
theorem dX11_init_24 : decode cX11_init 24 = .ok (.invokespecial 18, 3) := by decide +kernel
theorem dX11_init_27 : decode cX11_init 27 = .ok (.putfield 21, 3) := by decide +kernel
theorem dX11_init_30 : decode cX11_init 30 = .ok (.aload_n 0, 1) := by decide +kernel
theorem dX11_init_31 : decode cX11_init 31 = .ok (.new 25, 3) := by decide +kernel
theorem dX11_init_34 : decode cX11_init 34 = .ok (.dup, 1) := by decide +kernel
theorem dX11_init_35 : decode cX11_init 35 = .ok (.invokespecial 27, 3) := by decide +kernel
theorem dX11_init_38 : decode cX11_init 38 = .ok (.putfield 28, 3) := by decide +kernel
theorem dX11_init_41 : decode cX11_init 41 = .ok (.aload_n 0, 1) := by decide +kernel
theorem dX11_init_42 : decode cX11_init 42 = .ok (.new 32, 3) := by decide +kernel
theorem dX11_init_45 : decode cX11_init 45 = .ok (.dup, 1) := by decide +kernel
theorem dX11_init_46 : decode cX11_init 46 = .ok (.aload_n 0, 1) := by decide +kernel
theorem dX11_init_47 : decode cX11_init 47 = .ok (.getfield 12, 3) := by decide +kernel
theorem dX11_init_50 : decode cX11_init 50 = .ok (.invokespecial 34, 3) := by decide +kernel
theorem dX11_init_53 : decode cX11_init 53 = .ok (.putfield 35, 3) := by decide +kernel
theorem dX11_init_56 : decode cX11_init 56 = .ok (.aload_n 0, 1) := by decide +kernel
theorem dX11_init_57 : decode cX11_init 57 = .ok (.new 32, 3) := by decide +kernel
theorem dX11_init_60 : decode cX11_init 60 = .ok (.dup, 1) := by decide +kernel
theorem dX11_init_61 : decode cX11_init 61 = .ok (.aload_n 0, 1) := by decide +kernel
theorem dX11_init_62 : decode cX11_init 62 = .ok (.getfield 12, 3) := by decide +kernel
theorem dX11_init_65 : decode cX11_init 65 = .ok (.invokespecial 34, 3) := by decide +kernel
theorem dX11_init_68 : decode cX11_init 68 = .ok (.putfield 39, 3) := by decide +kernel
theorem dX11_init_71 : decode cX11_init 71 = .ok (.return_, 1) := by decide +kernel
theorem dX11_type_0 : decode cX11_type 0 = .ok (.iload_n 1, 1) := by decide +kernel
theorem dX11_type_1 : decode cX11_type 1 = .ok (.ifCond .lt 8, 3) := by decide +kernel
theorem dX11_type_4 : decode cX11_type 4 = .ok (.iload_n 1, 1) := by decide +kernel
theorem dX11_type_5 : decode cX11_type 5 = .ok (.iconst 2, 1) := by decide +kernel
theorem dX11_type_6 : decode cX11_type 6 = .ok (.if_icmp .le 13, 3) := by decide +kernel
theorem dX11_type_9 : decode cX11_type 9 = .ok (.new 42, 3) := by decide +kernel
theorem dX11_type_12 : decode cX11_type 12 = .ok (.dup, 1) := by decide +kernel
theorem dX11_type_13 : decode cX11_type 13 = .ok (.ldc 44, 2) := by decide +kernel
theorem dX11_type_15 : decode cX11_type 15 = .ok (.invokespecial 46, 3) := by decide +kernel
theorem dX11_type_18 : decode cX11_type 18 = .ok (.athrow, 1) := by decide +kernel
theorem dX11_type_19 : decode cX11_type 19 = .ok (.iload_n 1, 1) := by decide +kernel
theorem dX11_type_20 : decode cX11_type 20 = .ok (.iconst 2, 1) := by decide +kernel
theorem dX11_type_21 : decode cX11_type 21 = .ok (.if_icmp .ne 20, 3) := by decide +kernel
theorem dX11_type_24 : decode cX11_type 24 = .ok (.iload_n 2, 1) := by decide +kernel
theorem dX11_type_25 : decode cX11_type 25 = .ok (.invokestatic 49, 3) := by decide +kernel
theorem dX11_type_28 : decode cX11_type 28 = .ok (.ifCond .ne 13, 3) := by decide +kernel
theorem dX11_type_31 : decode cX11_type 31 = .ok (.new 42, 3) := by decide +kernel
theorem dX11_type_34 : decode cX11_type 34 = .ok (.dup, 1) := by decide +kernel
theorem dX11_type_35 : decode cX11_type 35 = .ok (.ldc 53, 2) := by decide +kernel
theorem dX11_type_37 : decode cX11_type 37 = .ok (.invokespecial 46, 3) := by decide +kernel
theorem dX11_type_40 : decode cX11_type 40 = .ok (.athrow, 1) := by decide +kernel
theorem dX11_type_41 : decode cX11_type 41 = .ok (.iload_n 1, 1) := by decide +kernel
theorem dX11_type_42 : decode cX11_type 42 = .ok (.iconst 1, 1) := by decide +kernel
theorem dX11_type_43 : decode cX11_type 43 = .ok (.if_icmp .ne 13, 3) := by decide +kernel
theorem dX11_type_46 : decode cX11_type 46 = .ok (.aload_n 0, 1) := by decide +kernel
theorem dX11_type_47 : decode cX11_type 47 = .ok (.iload_n 2, 1) := by decide +kernel
theorem dX11_type_48 : decode cX11_type 48 = .ok (.invokevirtual 55, 3) := by decide +kernel
theorem dX11_type_51 : decode cX11_type 51 = .ok (.aload_n 0, 1) := by decide +kernel
theorem dX11_type_52 : decode cX11_type 52 = .ok (.iload_n 3, 1) := by decide +kernel
theorem dX11_type_53 : decode cX11_type 53 = .ok (.invokevirtual 55, 3) := by decide +kernel
theorem dX11_type_56 : decode cX11_type 56 = .ok (.aload_n 0, 1) := by decide +kernel
theorem dX11_type_57 : decode cX11_type 57 = .ok (.getfield 12, 3) := by decide +kernel
theorem dX11_type_60 : decode cX11_type 60 = .ok (.getfield 59, 3) := by decide +kernel
theorem dX11_type_63 : decode cX11_type 63 = .ok (.bipush 60, 2) := by decide +kernel
theorem dX11_type_65 : decode cX11_type 65 = .ok (.if_icmp .lt 13, 3) := by decide +kernel
theorem dX11_type_68 : decode cX11_type 68 = .ok (.new 63, 3) := by decide +kernel
theorem dX11_type_71 : decode cX11_type 71 = .ok (.dup, 1) := by decide +kernel
theorem dX11_type_72 : decode cX11_type 72 = .ok (.ldc 65, 2) := by decide +kernel
theorem dX11_type_74 : decode cX11_type 74 = .ok (.invokespecial 67, 3) := by decide +kernel
theorem dX11_type_77 : decode cX11_type 77 = .ok (.athrow, 1) := by decide +kernel
theorem dX11_type_78 : decode cX11_type 78 = .ok (.iload_n 1, 1) := by decide +kernel
theorem dX11_type_79 : decode cX11_type 79 = .ok (.iconst 1, 1) := by decide +kernel
theorem dX11_type_80 : decode cX11_type 80 = .ok (.if_icmp .ne 39, 3) := by decide +kernel
theorem dX11_type_83 : decode cX11_type 83 = .ok (.iconst 1, 1) := by decide +kernel
theorem dX11_type_84 : decode cX11_type 84 = .ok (.aload_n 0, 1) := by decide +kernel
theorem dX11_type_85 : decode cX11_type 85 = .ok (.getfield 12, 3) := by decide +kernel
theorem dX11_type_88 : decode cX11_type 88 = .ok (.getfield 68, 3) := by decide +kernel
theorem dX11_type_91 : decode cX11_type 91 = .ok (.iload_n 2, 1) := by decide +kernel
theorem dX11_type_92 : decode cX11_type 92 = .ok (.iaload, 1) := by decide +kernel
theorem dX11_type_93 : decode cX11_type 93 = .ok (.iadd, 1) := by decide +kernel
theorem dX11_type_94 : decode cX11_type 94 = .ok (.aload_n 0, 1) := by decide +kernel
theorem dX11_type_95 : decode cX11_type 95 = .ok (.getfield 12, 3) := by decide +kernel
theorem dX11_type_98 : decode cX11_type 98 = .ok (.getfield 68, 3) := by decide +kernel
theorem dX11_type_101 : decode cX11_type 101 = .ok (.iload_n 3, 1) := by decide +kernel
theorem dX11_type_102 : decode cX11_type 102 = .ok (.iaload, 1) := by decide +kernel
theorem dX11_type_103 : decode cX11_type 103 = .ok (.iadd, 1) := by decide +kernel
theorem dX11_type_104 : decode cX11_type 104 = .ok (.bipush 12, 2) := by decide +kernel
theorem dX11_type_106 : decode cX11_type 106 = .ok (.if_icmp .le 13, 3) := by decide +kernel
theorem dX11_type_109 : decode cX11_type 109 = .ok (.new 63, 3) := by decide +kernel
theorem dX11_type_112 : decode cX11_type 112 = .ok (.dup, 1) := by decide +kernel
theorem dX11_type_113 : decode cX11_type 113 = .ok (.ldc 72, 2) := by decide +kernel
theorem dX11_type_115 : decode cX11_type 115 = .ok (.invokespecial 67, 3) := by decide +kernel
theorem dX11_type_118 : decode cX11_type 118 = .ok (.athrow, 1) := by decide +kernel
theorem dX11_type_119 : decode cX11_type 119 = .ok (.iload_n 1, 1) := by decide +kernel
theorem dX11_type_120 : decode cX11_type 120 = .ok (.iconst 1, 1) := by decide +kernel
theorem dX11_type_121 : decode cX11_type 121 = .ok (.if_icmp .ne 15, 3) := by decide +kernel
theorem dX11_type_124 : decode cX11_type 124 = .ok (.aload_n 0, 1) := by decide +kernel
theorem dX11_type_125 : decode cX11_type 125 = .ok (.getfield 12, 3) := by decide +kernel
theorem dX11_type_128 : decode cX11_type 128 = .ok (.iload_n 2, 1) := by decide +kernel
theorem dX11_type_129 : decode cX11_type 129 = .ok (.iload_n 3, 1) := by decide +kernel
theorem dX11_type_130 : decode cX11_type 130 = .ok (.invokevirtual 74, 3) := by decide +kernel
theorem dX11_type_133 : decode cX11_type 133 = .ok (.goto 21, 3) := by decide +kernel
theorem dX11_type_136 : decode cX11_type 136 = .ok (.aload_n 0, 1) := by decide +kernel
theorem dX11_type_137 : decode cX11_type 137 = .ok (.getfield 12, 3) := by decide +kernel
theorem dX11_type_140 : decode cX11_type 140 = .ok (.iload_n 1, 1) := by decide +kernel
theorem dX11_type_141 : decode cX11_type 141 = .ok (.ifCond .ne 7, 3) := by decide +kernel
theorem dX11_type_144 : decode cX11_type 144 = .ok (.iconst 0, 1) := by decide +kernel
theorem dX11_type_145 : decode cX11_type 145 = .ok (.goto 6, 3) := by decide +kernel
theorem dX11_type_148 : decode cX11_type 148 = .ok (.iconst 2, 1) := by decide +kernel
theorem dX11_type_149 : decode cX11_type 149 = .ok (.iload_n 2, 1) := by decide +kernel
theorem dX11_type_150 : decode cX11_type 150 = .ok (.iadd, 1) := by decide +kernel
theorem dX11_type_151 : decode cX11_type 151 = .ok (.invokevirtual 78, 3) := by decide +kernel
theorem dX11_type_154 : decode cX11_type 154 = .ok (.ireturn, 1) := by decide +kernel
theorem dX11_leaf_0 : decode cX11_leaf 0 = .ok (.iload_n 1, 1) := by decide +kernel
theorem dX11_leaf_1 : decode cX11_leaf 1 = .ok (.ifCond .eq 20, 3) := by decide +kernel
theorem dX11_leaf_4 : decode cX11_leaf 4 = .ok (.iload_n 2, 1) := by decide +kernel
theorem dX11_leaf_5 : decode cX11_leaf 5 = .ok (.invokestatic 82, 3) := by decide +kernel
theorem dX11_leaf_8 : decode cX11_leaf 8 = .ok (.ifCond .ne 13, 3) := by decide +kernel
theorem dX11_leaf_11 : decode cX11_leaf 11 = .ok (.new 42, 3) := by decide +kernel
theorem dX11_leaf_14 : decode cX11_leaf 14 = .ok (.dup, 1) := by decide +kernel
theorem dX11_leaf_15 : decode cX11_leaf 15 = .ok (.ldc 85, 2) := by decide +kernel
theorem dX11_leaf_17 : decode cX11_leaf 17 = .ok (.invokespecial 46, 3) := by decide +kernel
theorem dX11_leaf_20 : decode cX11_leaf 20 = .ok (.athrow, 1) := by decide +kernel
theorem dX11_leaf_21 : decode cX11_leaf 21 = .ok (.aload_n 0, 1) := by decide +kernel
theorem dX11_leaf_22 : decode cX11_leaf 22 = .ok (.getfield 12, 3) := by decide +kernel
theorem dX11_leaf_25 : decode cX11_leaf 25 = .ok (.getfield 87, 3) := by decide +kernel
theorem dX11_leaf_28 : decode cX11_leaf 28 = .ok (.bipush 120, 2) := by decide +kernel
theorem dX11_leaf_30 : decode cX11_leaf 30 = .ok (.if_icmp .lt 13, 3) := by decide +kernel
theorem dX11_leaf_33 : decode cX11_leaf 33 = .ok (.new 63, 3) := by decide +kernel
theorem dX11_leaf_36 : decode cX11_leaf 36 = .ok (.dup, 1) := by decide +kernel
theorem dX11_leaf_37 : decode cX11_leaf 37 = .ok (.ldc 90, 2) := by decide +kernel
theorem dX11_leaf_39 : decode cX11_leaf 39 = .ok (.invokespecial 67, 3) := by decide +kernel
theorem dX11_leaf_42 : decode cX11_leaf 42 = .ok (.athrow, 1) := by decide +kernel
theorem dX11_leaf_43 : decode cX11_leaf 43 = .ok (.aload_n 0, 1) := by decide +kernel
theorem dX11_leaf_44 : decode cX11_leaf 44 = .ok (.getfield 12, 3) := by decide +kernel
theorem dX11_leaf_47 : decode cX11_leaf 47 = .ok (.iload_n 1, 1) := by decide +kernel
theorem dX11_leaf_48 : decode cX11_leaf 48 = .ok (.ifCond .eq 8, 3) := by decide +kernel
theorem dX11_leaf_51 : decode cX11_leaf 51 = .ok (.bipush 6, 2) := by decide +kernel
theorem dX11_leaf_53 : decode cX11_leaf 53 = .ok (.goto 4, 3) := by decide +kernel
theorem dX11_leaf_56 : decode cX11_leaf 56 = .ok (.iconst 5, 1) := by decide +kernel
theorem dX11_leaf_57 : decode cX11_leaf 57 = .ok (.iload_n 2, 1) := by decide +kernel
theorem dX11_leaf_58 : decode cX11_leaf 58 = .ok (.invokevirtual 92, 3) := by decide +kernel
theorem dX11_leaf_61 : decode cX11_leaf 61 = .ok (.ireturn, 1) := by decide +kernel
theorem dX11_expression_0 : decode cX11_expression 0 = .ok (.iload_n 1, 1) := by decide +kernel
theorem dX11_expression_1 : decode cX11_expression 1 = .ok (.ifCond .lt 8, 3) := by decide +kernel
theorem dX11_expression_4 : decode cX11_expression 4 = .ok (.iload_n 1, 1) := by decide +kernel
theorem dX11_expression_5 : decode cX11_expression 5 = .ok (.iconst 4, 1) := by decide +kernel
theorem dX11_expression_6 : decode cX11_expression 6 = .ok (.if_icmp .le 13, 3) := by decide +kernel
theorem dX11_expression_9 : decode cX11_expression 9 = .ok (.new 42, 3) := by decide +kernel
theorem dX11_expression_12 : decode cX11_expression 12 = .ok (.dup, 1) := by decide +kernel
theorem dX11_expression_13 : decode cX11_expression 13 = .ok (.ldc 95, 2) := by decide +kernel
theorem dX11_expression_15 : decode cX11_expression 15 = .ok (.invokespecial 46, 3) := by decide +kernel
theorem dX11_expression_18 : decode cX11_expression 18 = .ok (.athrow, 1) := by decide +kernel
theorem dX11_expression_19 : decode cX11_expression 19 = .ok (.iload_n 1, 1) := by decide +kernel
theorem dX11_expression_20 : decode cX11_expression 20 = .ok (.iconst 2, 1) := by decide +kernel
theorem dX11_expression_21 : decode cX11_expression 21 = .ok (.if_icmp .eq 8, 3) := by decide +kernel
theorem dX11_expression_24 : decode cX11_expression 24 = .ok (.iload_n 1, 1) := by decide +kernel
theorem dX11_expression_25 : decode cX11_expression 25 = .ok (.iconst 3, 1) := by decide +kernel
theorem dX11_expression_26 : decode cX11_expression 26 = .ok (.if_icmp .ne 7, 3) := by decide +kernel
theorem dX11_expression_29 : decode cX11_expression 29 = .ok (.iconst 1, 1) := by decide +kernel
theorem dX11_expression_30 : decode cX11_expression 30 = .ok (.goto 4, 3) := by decide +kernel
theorem dX11_expression_33 : decode cX11_expression 33 = .ok (.iconst 0, 1) := by decide +kernel
theorem dX11_expression_34 : decode cX11_expression 34 = .ok (.istore 5, 2) := by decide +kernel
theorem dX11_expression_36 : decode cX11_expression 36 = .ok (.aload_n 0, 1) := by decide +kernel
theorem dX11_expression_37 : decode cX11_expression 37 = .ok (.iload_n 2, 1) := by decide +kernel
theorem dX11_expression_38 : decode cX11_expression 38 = .ok (.invokevirtual 97, 3) := by decide +kernel
theorem dX11_expression_41 : decode cX11_expression 41 = .ok (.iload 5, 2) := by decide +kernel
theorem dX11_expression_43 : decode cX11_expression 43 = .ok (.ifCond .ne 8, 3) := by decide +kernel
theorem dX11_expression_46 : decode cX11_expression 46 = .ok (.aload_n 0, 1) := by decide +kernel
theorem dX11_expression_47 : decode cX11_expression 47 = .ok (.iload_n 3, 1) := by decide +kernel
theorem dX11_expression_48 : decode cX11_expression 48 = .ok (.invokevirtual 97, 3) := by decide +kernel
theorem dX11_expression_51 : decode cX11_expression 51 = .ok (.iload_n 1, 1) := by decide +kernel
theorem dX11_expression_52 : decode cX11_expression 52 = .ok (.iconst 4, 1) := by decide +kernel
theorem dX11_expression_53 : decode cX11_expression 53 = .ok (.if_icmp .ne 9, 3) := by decide +kernel
theorem dX11_expression_56 : decode cX11_expression 56 = .ok (.aload_n 0, 1) := by decide +kernel
theorem dX11_expression_57 : decode cX11_expression 57 = .ok (.iload 4, 2) := by decide +kernel
theorem dX11_expression_59 : decode cX11_expression 59 = .ok (.invokevirtual 97, 3) := by decide +kernel
theorem dX11_expression_62 : decode cX11_expression 62 = .ok (.aload_n 0, 1) := by decide +kernel
theorem dX11_expression_63 : decode cX11_expression 63 = .ok (.getfield 12, 3) := by decide +kernel
theorem dX11_expression_66 : decode cX11_expression 66 = .ok (.getfield 87, 3) := by decide +kernel
theorem dX11_expression_69 : decode cX11_expression 69 = .ok (.bipush 120, 2) := by decide +kernel
theorem dX11_expression_71 : decode cX11_expression 71 = .ok (.if_icmp .lt 13, 3) := by decide +kernel
theorem dX11_expression_74 : decode cX11_expression 74 = .ok (.new 63, 3) := by decide +kernel
theorem dX11_expression_77 : decode cX11_expression 77 = .ok (.dup, 1) := by decide +kernel
theorem dX11_expression_78 : decode cX11_expression 78 = .ok (.ldc 90, 2) := by decide +kernel
theorem dX11_expression_80 : decode cX11_expression 80 = .ok (.invokespecial 67, 3) := by decide +kernel
theorem dX11_expression_83 : decode cX11_expression 83 = .ok (.athrow, 1) := by decide +kernel
theorem dX11_expression_84 : decode cX11_expression 84 = .ok (.iload 5, 2) := by decide +kernel
theorem dX11_expression_86 : decode cX11_expression 86 = .ok (.ifCond .eq 7, 3) := by decide +kernel
theorem dX11_expression_89 : decode cX11_expression 89 = .ok (.iconst (-1), 1) := by decide +kernel
theorem dX11_expression_90 : decode cX11_expression 90 = .ok (.goto 4, 3) := by decide +kernel
theorem dX11_expression_93 : decode cX11_expression 93 = .ok (.iload_n 3, 1) := by decide +kernel
theorem dX11_expression_94 : decode cX11_expression 94 = .ok (.istore 6, 2) := by decide +kernel
theorem dX11_expression_96 : decode cX11_expression 96 = .ok (.iload_n 1, 1) := by decide +kernel
theorem dX11_expression_97 : decode cX11_expression 97 = .ok (.iconst 4, 1) := by decide +kernel
theorem dX11_expression_98 : decode cX11_expression 98 = .ok (.if_icmp .ne 8, 3) := by decide +kernel
theorem dX11_expression_101 : decode cX11_expression 101 = .ok (.iload 4, 2) := by decide +kernel
theorem dX11_expression_103 : decode cX11_expression 103 = .ok (.goto 4, 3) := by decide +kernel
theorem dX11_expression_106 : decode cX11_expression 106 = .ok (.iconst (-1), 1) := by decide +kernel
theorem dX11_expression_107 : decode cX11_expression 107 = .ok (.istore 7, 2) := by decide +kernel
theorem dX11_expression_109 : decode cX11_expression 109 = .ok (.aload_n 0, 1) := by decide +kernel
theorem dX11_expression_110 : decode cX11_expression 110 = .ok (.getfield 12, 3) := by decide +kernel
theorem dX11_expression_113 : decode cX11_expression 113 = .ok (.iload_n 2, 1) := by decide +kernel
theorem dX11_expression_114 : decode cX11_expression 114 = .ok (.iload 6, 2) := by decide +kernel
theorem dX11_expression_116 : decode cX11_expression 116 = .ok (.iload 7, 2) := by decide +kernel
theorem dX11_expression_118 : decode cX11_expression 118 = .ok (.invokevirtual 100, 3) := by decide +kernel
theorem dX11_expression_121 : decode cX11_expression 121 = .ok (.bipush 12, 2) := by decide +kernel
theorem dX11_expression_123 : decode cX11_expression 123 = .ok (.if_icmp .le 13, 3) := by decide +kernel
theorem dX11_expression_126 : decode cX11_expression 126 = .ok (.new 63, 3) := by decide +kernel
theorem dX11_expression_129 : decode cX11_expression 129 = .ok (.dup, 1) := by decide +kernel
theorem dX11_expression_130 : decode cX11_expression 130 = .ok (.ldc 104, 2) := by decide +kernel
theorem dX11_expression_132 : decode cX11_expression 132 = .ok (.invokespecial 67, 3) := by decide +kernel
theorem dX11_expression_135 : decode cX11_expression 135 = .ok (.athrow, 1) := by decide +kernel
theorem dX11_expression_136 : decode cX11_expression 136 = .ok (.aload_n 0, 1) := by decide +kernel
theorem dX11_expression_137 : decode cX11_expression 137 = .ok (.getfield 12, 3) := by decide +kernel
theorem dX11_expression_140 : decode cX11_expression 140 = .ok (.iload_n 1, 1) := by decide +kernel
theorem dX11_expression_141 : decode cX11_expression 141 = .ok (.iload_n 2, 1) := by decide +kernel
theorem dX11_expression_142 : decode cX11_expression 142 = .ok (.iload 6, 2) := by decide +kernel
theorem dX11_expression_144 : decode cX11_expression 144 = .ok (.iload 7, 2) := by decide +kernel
theorem dX11_expression_146 : decode cX11_expression 146 = .ok (.invokevirtual 106, 3) := by decide +kernel
theorem dX11_expression_149 : decode cX11_expression 149 = .ok (.ireturn, 1) := by decide +kernel
theorem dX11_unit_0 : decode cX11_unit 0 = .ok (.aload_n 0, 1) := by decide +kernel
theorem dX11_unit_1 : decode cX11_unit 1 = .ok (.getfield 12, 3) := by decide +kernel
theorem dX11_unit_4 : decode cX11_unit 4 = .ok (.getfield 110, 3) := by decide +kernel
theorem dX11_unit_7 : decode cX11_unit 7 = .ok (.bipush 8, 2) := by decide +kernel
theorem dX11_unit_9 : decode cX11_unit 9 = .ok (.if_icmp .lt 13, 3) := by decide +kernel
theorem dX11_unit_12 : decode cX11_unit 12 = .ok (.new 63, 3) := by decide +kernel
theorem dX11_unit_15 : decode cX11_unit 15 = .ok (.dup, 1) := by decide +kernel
theorem dX11_unit_16 : decode cX11_unit 16 = .ok (.ldc 113, 2) := by decide +kernel
theorem dX11_unit_18 : decode cX11_unit 18 = .ok (.invokespecial 67, 3) := by decide +kernel
theorem dX11_unit_21 : decode cX11_unit 21 = .ok (.athrow, 1) := by decide +kernel
theorem dX11_unit_22 : decode cX11_unit 22 = .ok (.aload_n 0, 1) := by decide +kernel
theorem dX11_unit_23 : decode cX11_unit 23 = .ok (.getfield 12, 3) := by decide +kernel
theorem dX11_unit_26 : decode cX11_unit 26 = .ok (.invokevirtual 115, 3) := by decide +kernel
theorem dX11_unit_29 : decode cX11_unit 29 = .ok (.ireturn, 1) := by decide +kernel
theorem dX11_version_0 : decode cX11_version 0 = .ok (.aload_n 0, 1) := by decide +kernel
theorem dX11_version_1 : decode cX11_version 1 = .ok (.iload_n 1, 1) := by decide +kernel
theorem dX11_version_2 : decode cX11_version 2 = .ok (.invokevirtual 119, 3) := by decide +kernel
theorem dX11_version_5 : decode cX11_version 5 = .ok (.aload_n 0, 1) := by decide +kernel
theorem dX11_version_6 : decode cX11_version 6 = .ok (.getfield 12, 3) := by decide +kernel
theorem dX11_version_9 : decode cX11_version 9 = .ok (.getfield 122, 3) := by decide +kernel
theorem dX11_version_12 : decode cX11_version 12 = .ok (.iload_n 1, 1) := by decide +kernel
theorem dX11_version_13 : decode cX11_version 13 = .ok (.iaload, 1) := by decide +kernel
theorem dX11_version_14 : decode cX11_version 14 = .ok (.iconst 5, 1) := by decide +kernel
theorem dX11_version_15 : decode cX11_version 15 = .ok (.if_icmp .lt 13, 3) := by decide +kernel
theorem dX11_version_18 : decode cX11_version 18 = .ok (.new 63, 3) := by decide +kernel
theorem dX11_version_21 : decode cX11_version 21 = .ok (.dup, 1) := by decide +kernel
theorem dX11_version_22 : decode cX11_version 22 = .ok (.ldc 125, 2) := by decide +kernel
theorem dX11_version_24 : decode cX11_version 24 = .ok (.invokespecial 67, 3) := by decide +kernel
theorem dX11_version_27 : decode cX11_version 27 = .ok (.athrow, 1) := by decide +kernel
theorem dX11_version_28 : decode cX11_version 28 = .ok (.aload_n 0, 1) := by decide +kernel
theorem dX11_version_29 : decode cX11_version 29 = .ok (.getfield 12, 3) := by decide +kernel
theorem dX11_version_32 : decode cX11_version 32 = .ok (.iload_n 1, 1) := by decide +kernel
theorem dX11_version_33 : decode cX11_version 33 = .ok (.invokevirtual 127, 3) := by decide +kernel
theorem dX11_version_36 : decode cX11_version 36 = .ok (.ireturn, 1) := by decide +kernel
theorem dX11_setType_0 : decode cX11_setType 0 = .ok (.aload_n 0, 1) := by decide +kernel
theorem dX11_setType_1 : decode cX11_setType 1 = .ok (.iload_n 1, 1) := by decide +kernel
theorem dX11_setType_2 : decode cX11_setType 2 = .ok (.invokevirtual 119, 3) := by decide +kernel
theorem dX11_setType_5 : decode cX11_setType 5 = .ok (.iload_n 3, 1) := by decide +kernel
theorem dX11_setType_6 : decode cX11_setType 6 = .ok (.iconst (-1), 1) := by decide +kernel
theorem dX11_setType_7 : decode cX11_setType 7 = .ok (.if_icmp .eq 14, 3) := by decide +kernel
theorem dX11_setType_10 : decode cX11_setType 10 = .ok (.iload_n 3, 1) := by decide +kernel
theorem dX11_setType_11 : decode cX11_setType 11 = .ok (.bipush (-2), 2) := by decide +kernel
theorem dX11_setType_13 : decode cX11_setType 13 = .ok (.if_icmp .eq 8, 3) := by decide +kernel
theorem dX11_setType_16 : decode cX11_setType 16 = .ok (.aload_n 0, 1) := by decide +kernel
theorem dX11_setType_17 : decode cX11_setType 17 = .ok (.iload_n 3, 1) := by decide +kernel
theorem dX11_setType_18 : decode cX11_setType 18 = .ok (.invokevirtual 55, 3) := by decide +kernel
theorem dX11_setType_21 : decode cX11_setType 21 = .ok (.aload_n 0, 1) := by decide +kernel
theorem dX11_setType_22 : decode cX11_setType 22 = .ok (.iload_n 2, 1) := by decide +kernel
theorem dX11_setType_23 : decode cX11_setType 23 = .ok (.invokevirtual 130, 3) := by decide +kernel
theorem dX11_setType_26 : decode cX11_setType 26 = .ok (.aload_n 0, 1) := by decide +kernel
theorem dX11_setType_27 : decode cX11_setType 27 = .ok (.getfield 12, 3) := by decide +kernel
theorem dX11_setType_30 : decode cX11_setType 30 = .ok (.iload_n 1, 1) := by decide +kernel
theorem dX11_setType_31 : decode cX11_setType 31 = .ok (.invokevirtual 133, 3) := by decide +kernel
theorem dX11_setType_34 : decode cX11_setType 34 = .ok (.getfield 137, 3) := by decide +kernel
theorem dX11_setType_37 : decode cX11_setType 37 = .ok (.iload_n 2, 1) := by decide +kernel
theorem dX11_setType_38 : decode cX11_setType 38 = .ok (.iload_n 3, 1) := by decide +kernel
theorem dX11_setType_39 : decode cX11_setType 39 = .ok (.iastore, 1) := by decide +kernel
theorem dX11_setType_40 : decode cX11_setType 40 = .ok (.aload_n 0, 1) := by decide +kernel
theorem dX11_setType_41 : decode cX11_setType 41 = .ok (.getfield 12, 3) := by decide +kernel
theorem dX11_setType_44 : decode cX11_setType 44 = .ok (.dup, 1) := by decide +kernel
theorem dX11_setType_45 : decode cX11_setType 45 = .ok (.getfield 142, 3) := by decide +kernel
theorem dX11_setType_48 : decode cX11_setType 48 = .ok (.iconst 1, 1) := by decide +kernel
theorem dX11_setType_49 : decode cX11_setType 49 = .ok (.iadd, 1) := by decide +kernel
theorem dX11_setType_50 : decode cX11_setType 50 = .ok (.putfield 142, 3) := by decide +kernel
theorem dX11_setType_53 : decode cX11_setType 53 = .ok (.return_, 1) := by decide +kernel
theorem dX11_setValue_0 : decode cX11_setValue 0 = .ok (.aload_n 0, 1) := by decide +kernel
theorem dX11_setValue_1 : decode cX11_setValue 1 = .ok (.iload_n 1, 1) := by decide +kernel
theorem dX11_setValue_2 : decode cX11_setValue 2 = .ok (.invokevirtual 119, 3) := by decide +kernel
theorem dX11_setValue_5 : decode cX11_setValue 5 = .ok (.aload_n 0, 1) := by decide +kernel
theorem dX11_setValue_6 : decode cX11_setValue 6 = .ok (.iload_n 3, 1) := by decide +kernel
theorem dX11_setValue_7 : decode cX11_setValue 7 = .ok (.invokevirtual 55, 3) := by decide +kernel
theorem dX11_setValue_10 : decode cX11_setValue 10 = .ok (.iload 4, 2) := by decide +kernel
theorem dX11_setValue_12 : decode cX11_setValue 12 = .ok (.iconst (-1), 1) := by decide +kernel
theorem dX11_setValue_13 : decode cX11_setValue 13 = .ok (.if_icmp .eq 9, 3) := by decide +kernel
theorem dX11_setValue_16 : decode cX11_setValue 16 = .ok (.aload_n 0, 1) := by decide +kernel
theorem dX11_setValue_17 : decode cX11_setValue 17 = .ok (.iload 4, 2) := by decide +kernel
theorem dX11_setValue_19 : decode cX11_setValue 19 = .ok (.invokevirtual 97, 3) := by decide +kernel
theorem dX11_setValue_22 : decode cX11_setValue 22 = .ok (.aload_n 0, 1) := by decide +kernel
theorem dX11_setValue_23 : decode cX11_setValue 23 = .ok (.iload_n 2, 1) := by decide +kernel
theorem dX11_setValue_24 : decode cX11_setValue 24 = .ok (.invokevirtual 145, 3) := by decide +kernel
theorem dX11_setValue_27 : decode cX11_setValue 27 = .ok (.iload 4, 2) := by decide +kernel
theorem dX11_setValue_29 : decode cX11_setValue 29 = .ok (.iconst (-1), 1) := by decide +kernel
theorem dX11_setValue_30 : decode cX11_setValue 30 = .ok (.if_icmp .ne 7, 3) := by decide +kernel
theorem dX11_setValue_33 : decode cX11_setValue 33 = .ok (.iconst 1, 1) := by decide +kernel
theorem dX11_setValue_34 : decode cX11_setValue 34 = .ok (.goto 4, 3) := by decide +kernel
theorem dX11_setValue_37 : decode cX11_setValue 37 = .ok (.iconst 0, 1) := by decide +kernel
theorem dX11_setValue_38 : decode cX11_setValue 38 = .ok (.istore 6, 2) := by decide +kernel
theorem dX11_setValue_40 : decode cX11_setValue 40 = .ok (.iload 5, 2) := by decide +kernel
theorem dX11_setValue_42 : decode cX11_setValue 42 = .ok (.ifCond .lt 26, 3) := by decide +kernel
theorem dX11_setValue_45 : decode cX11_setValue 45 = .ok (.iload 5, 2) := by decide +kernel
theorem dX11_setValue_47 : decode cX11_setValue 47 = .ok (.bipush 7, 2) := by decide +kernel
theorem dX11_setValue_49 : decode cX11_setValue 49 = .ok (.if_icmp .gt 19, 3) := by decide +kernel
theorem dX11_setValue_52 : decode cX11_setValue 52 = .ok (.iload 6, 2) := by decide +kernel
theorem dX11_setValue_54 : decode cX11_setValue 54 = .ok (.ifCond .eq 24, 3) := by decide +kernel
theorem dX11_setValue_57 : decode cX11_setValue 57 = .ok (.iload 5, 2) := by decide +kernel
theorem dX11_setValue_59 : decode cX11_setValue 59 = .ok (.ifCond .eq 19, 3) := by decide +kernel
theorem dX11_setValue_62 : decode cX11_setValue 62 = .ok (.iload 5, 2) := by decide +kernel
theorem dX11_setValue_64 : decode cX11_setValue 64 = .ok (.iconst 4, 1) := by decide +kernel
theorem dX11_setValue_65 : decode cX11_setValue 65 = .ok (.if_icmp .eq 13, 3) := by decide +kernel
theorem dX11_setValue_68 : decode cX11_setValue 68 = .ok (.new 42, 3) := by decide +kernel
theorem dX11_setValue_71 : decode cX11_setValue 71 = .ok (.dup, 1) := by decide +kernel
theorem dX11_setValue_72 : decode cX11_setValue 72 = .ok (.ldc 148, 2) := by decide +kernel
theorem dX11_setValue_74 : decode cX11_setValue 74 = .ok (.invokespecial 46, 3) := by decide +kernel
theorem dX11_setValue_77 : decode cX11_setValue 77 = .ok (.athrow, 1) := by decide +kernel
theorem dX11_setValue_78 : decode cX11_setValue 78 = .ok (.aload_n 0, 1) := by decide +kernel
theorem dX11_setValue_79 : decode cX11_setValue 79 = .ok (.getfield 12, 3) := by decide +kernel
theorem dX11_setValue_82 : decode cX11_setValue 82 = .ok (.iload_n 1, 1) := by decide +kernel
theorem dX11_setValue_83 : decode cX11_setValue 83 = .ok (.invokevirtual 133, 3) := by decide +kernel
theorem dX11_setValue_86 : decode cX11_setValue 86 = .ok (.astore 7, 2) := by decide +kernel
theorem dX11_setValue_88 : decode cX11_setValue 88 = .ok (.aload 7, 2) := by decide +kernel
theorem dX11_setValue_90 : decode cX11_setValue 90 = .ok (.getfield 150, 3) := by decide +kernel
theorem dX11_setValue_93 : decode cX11_setValue 93 = .ok (.iload_n 2, 1) := by decide +kernel
theorem dX11_setValue_94 : decode cX11_setValue 94 = .ok (.iload_n 3, 1) := by decide +kernel
theorem dX11_setValue_95 : decode cX11_setValue 95 = .ok (.iastore, 1) := by decide +kernel
theorem dX11_setValue_96 : decode cX11_setValue 96 = .ok (.aload 7, 2) := by decide +kernel
theorem dX11_setValue_98 : decode cX11_setValue 98 = .ok (.getfield 153, 3) := by decide +kernel
theorem dX11_setValue_101 : decode cX11_setValue 101 = .ok (.iload_n 2, 1) := by decide +kernel
theorem dX11_setValue_102 : decode cX11_setValue 102 = .ok (.iload 4, 2) := by decide +kernel
theorem dX11_setValue_104 : decode cX11_setValue 104 = .ok (.iastore, 1) := by decide +kernel
theorem dX11_setValue_105 : decode cX11_setValue 105 = .ok (.aload 7, 2) := by decide +kernel
theorem dX11_setValue_107 : decode cX11_setValue 107 = .ok (.getfield 156, 3) := by decide +kernel
theorem dX11_setValue_110 : decode cX11_setValue 110 = .ok (.iload_n 2, 1) := by decide +kernel
theorem dX11_setValue_111 : decode cX11_setValue 111 = .ok (.iload 5, 2) := by decide +kernel
theorem dX11_setValue_113 : decode cX11_setValue 113 = .ok (.iastore, 1) := by decide +kernel
theorem dX11_setValue_114 : decode cX11_setValue 114 = .ok (.aload_n 0, 1) := by decide +kernel
theorem dX11_setValue_115 : decode cX11_setValue 115 = .ok (.getfield 12, 3) := by decide +kernel
theorem dX11_setValue_118 : decode cX11_setValue 118 = .ok (.dup, 1) := by decide +kernel
theorem dX11_setValue_119 : decode cX11_setValue 119 = .ok (.getfield 142, 3) := by decide +kernel
theorem dX11_setValue_122 : decode cX11_setValue 122 = .ok (.iconst 1, 1) := by decide +kernel
theorem dX11_setValue_123 : decode cX11_setValue 123 = .ok (.iadd, 1) := by decide +kernel
theorem dX11_setValue_124 : decode cX11_setValue 124 = .ok (.putfield 142, 3) := by decide +kernel
theorem dX11_setValue_127 : decode cX11_setValue 127 = .ok (.return_, 1) := by decide +kernel
theorem dX11_remove_0 : decode cX11_remove 0 = .ok (.aload_n 0, 1) := by decide +kernel
theorem dX11_remove_1 : decode cX11_remove 1 = .ok (.iload_n 1, 1) := by decide +kernel
theorem dX11_remove_2 : decode cX11_remove 2 = .ok (.invokevirtual 119, 3) := by decide +kernel
theorem dX11_remove_5 : decode cX11_remove 5 = .ok (.aload_n 0, 1) := by decide +kernel
theorem dX11_remove_6 : decode cX11_remove 6 = .ok (.iload_n 2, 1) := by decide +kernel
theorem dX11_remove_7 : decode cX11_remove 7 = .ok (.invokevirtual 145, 3) := by decide +kernel
theorem dX11_remove_10 : decode cX11_remove 10 = .ok (.aload_n 0, 1) := by decide +kernel
theorem dX11_remove_11 : decode cX11_remove 11 = .ok (.getfield 12, 3) := by decide +kernel
theorem dX11_remove_14 : decode cX11_remove 14 = .ok (.iload_n 1, 1) := by decide +kernel
theorem dX11_remove_15 : decode cX11_remove 15 = .ok (.invokevirtual 133, 3) := by decide +kernel
theorem dX11_remove_18 : decode cX11_remove 18 = .ok (.astore_n 3, 1) := by decide +kernel
theorem dX11_remove_19 : decode cX11_remove 19 = .ok (.aload_n 3, 1) := by decide +kernel
theorem dX11_remove_20 : decode cX11_remove 20 = .ok (.iload_n 2, 1) := by decide +kernel
theorem dX11_remove_21 : decode cX11_remove 21 = .ok (.invokevirtual 159, 3) := by decide +kernel
theorem dX11_remove_24 : decode cX11_remove 24 = .ok (.istore 4, 2) := by decide +kernel
theorem dX11_remove_26 : decode cX11_remove 26 = .ok (.aload_n 3, 1) := by decide +kernel
theorem dX11_remove_27 : decode cX11_remove 27 = .ok (.getfield 150, 3) := by decide +kernel
theorem dX11_remove_30 : decode cX11_remove 30 = .ok (.iload_n 2, 1) := by decide +kernel
theorem dX11_remove_31 : decode cX11_remove 31 = .ok (.bipush (-2), 2) := by decide +kernel
theorem dX11_remove_33 : decode cX11_remove 33 = .ok (.iastore, 1) := by decide +kernel
theorem dX11_remove_34 : decode cX11_remove 34 = .ok (.aload_n 0, 1) := by decide +kernel
theorem dX11_remove_35 : decode cX11_remove 35 = .ok (.getfield 12, 3) := by decide +kernel
theorem dX11_remove_38 : decode cX11_remove 38 = .ok (.dup, 1) := by decide +kernel
theorem dX11_remove_39 : decode cX11_remove 39 = .ok (.getfield 142, 3) := by decide +kernel
theorem dX11_remove_42 : decode cX11_remove 42 = .ok (.iconst 1, 1) := by decide +kernel
theorem dX11_remove_43 : decode cX11_remove 43 = .ok (.iadd, 1) := by decide +kernel
theorem dX11_remove_44 : decode cX11_remove 44 = .ok (.putfield 142, 3) := by decide +kernel
theorem dX11_remove_47 : decode cX11_remove 47 = .ok (.iload 4, 2) := by decide +kernel
theorem dX11_remove_49 : decode cX11_remove 49 = .ok (.ireturn, 1) := by decide +kernel
theorem dX11_unitNode_0 : decode cX11_unitNode 0 = .ok (.aload_n 0, 1) := by decide +kernel
theorem dX11_unitNode_1 : decode cX11_unitNode 1 = .ok (.iload_n 1, 1) := by decide +kernel
theorem dX11_unitNode_2 : decode cX11_unitNode 2 = .ok (.invokevirtual 119, 3) := by decide +kernel
theorem dX11_unitNode_5 : decode cX11_unitNode 5 = .ok (.iload_n 2, 1) := by decide +kernel
theorem dX11_unitNode_6 : decode cX11_unitNode 6 = .ok (.iconst (-1), 1) := by decide +kernel
theorem dX11_unitNode_7 : decode cX11_unitNode 7 = .ok (.if_icmp .lt 16, 3) := by decide +kernel
theorem dX11_unitNode_10 : decode cX11_unitNode 10 = .ok (.iload_n 2, 1) := by decide +kernel
theorem dX11_unitNode_11 : decode cX11_unitNode 11 = .ok (.aload_n 0, 1) := by decide +kernel
theorem dX11_unitNode_12 : decode cX11_unitNode 12 = .ok (.getfield 12, 3) := by decide +kernel
theorem dX11_unitNode_15 : decode cX11_unitNode 15 = .ok (.getfield 122, 3) := by decide +kernel
theorem dX11_unitNode_18 : decode cX11_unitNode 18 = .ok (.iload_n 1, 1) := by decide +kernel
theorem dX11_unitNode_19 : decode cX11_unitNode 19 = .ok (.iaload, 1) := by decide +kernel
theorem dX11_unitNode_20 : decode cX11_unitNode 20 = .ok (.if_icmp .lt 13, 3) := by decide +kernel
theorem dX11_unitNode_23 : decode cX11_unitNode 23 = .ok (.new 162, 3) := by decide +kernel
theorem dX11_unitNode_26 : decode cX11_unitNode 26 = .ok (.dup, 1) := by decide +kernel
theorem dX11_unitNode_27 : decode cX11_unitNode 27 = .ok (.ldc 164, 2) := by decide +kernel
theorem dX11_unitNode_29 : decode cX11_unitNode 29 = .ok (.invokespecial 166, 3) := by decide +kernel
theorem dX11_unitNode_32 : decode cX11_unitNode 32 = .ok (.athrow, 1) := by decide +kernel
theorem dX11_unitNode_33 : decode cX11_unitNode 33 = .ok (.aload_n 0, 1) := by decide +kernel
theorem dX11_unitNode_34 : decode cX11_unitNode 34 = .ok (.iconst 1, 1) := by decide +kernel
theorem dX11_unitNode_35 : decode cX11_unitNode 35 = .ok (.invokevirtual 167, 3) := by decide +kernel
theorem dX11_unitNode_38 : decode cX11_unitNode 38 = .ok (.aload_n 0, 1) := by decide +kernel
theorem dX11_unitNode_39 : decode cX11_unitNode 39 = .ok (.getfield 12, 3) := by decide +kernel
theorem dX11_unitNode_42 : decode cX11_unitNode 42 = .ok (.bipush 6, 2) := by decide +kernel
theorem dX11_unitNode_44 : decode cX11_unitNode 44 = .ok (.iconst 0, 1) := by decide +kernel
theorem dX11_unitNode_45 : decode cX11_unitNode 45 = .ok (.anewarray 170, 3) := by decide +kernel
theorem dX11_unitNode_48 : decode cX11_unitNode 48 = .ok (.iload_n 1, 1) := by decide +kernel
theorem dX11_unitNode_49 : decode cX11_unitNode 49 = .ok (.iload_n 2, 1) := by decide +kernel
theorem dX11_unitNode_50 : decode cX11_unitNode 50 = .ok (.iconst 0, 1) := by decide +kernel
theorem dX11_unitNode_51 : decode cX11_unitNode 51 = .ok (.invokevirtual 172, 3) := by decide +kernel
theorem dX11_unitNode_54 : decode cX11_unitNode 54 = .ok (.ireturn, 1) := by decide +kernel
theorem dX11_node_0 : decode cX11_node 0 = .ok (.iload_n 1, 1) := by decide +kernel
theorem dX11_node_1 : decode cX11_node 1 = .ok (.ifCond .lt 8, 3) := by decide +kernel
theorem dX11_node_4 : decode cX11_node 4 = .ok (.iload_n 1, 1) := by decide +kernel
theorem dX11_node_5 : decode cX11_node 5 = .ok (.iconst 2, 1) := by decide +kernel
theorem dX11_node_6 : decode cX11_node 6 = .ok (.if_icmp .le 13, 3) := by decide +kernel
theorem dX11_node_9 : decode cX11_node 9 = .ok (.new 42, 3) := by decide +kernel
theorem dX11_node_12 : decode cX11_node 12 = .ok (.dup, 1) := by decide +kernel
theorem dX11_node_13 : decode cX11_node 13 = .ok (.ldc 176, 2) := by decide +kernel
theorem dX11_node_15 : decode cX11_node 15 = .ok (.invokespecial 46, 3) := by decide +kernel
theorem dX11_node_18 : decode cX11_node 18 = .ok (.athrow, 1) := by decide +kernel
theorem dX11_node_19 : decode cX11_node 19 = .ok (.iconst 2, 1) := by decide +kernel
theorem dX11_node_20 : decode cX11_node 20 = .ok (.anewarray 170, 3) := by decide +kernel
theorem dX11_node_23 : decode cX11_node 23 = .ok (.dup, 1) := by decide +kernel
theorem dX11_node_24 : decode cX11_node 24 = .ok (.iconst 0, 1) := by decide +kernel
theorem dX11_node_25 : decode cX11_node 25 = .ok (.aload_n 0, 1) := by decide +kernel
theorem dX11_node_26 : decode cX11_node 26 = .ok (.iload_n 2, 1) := by decide +kernel
theorem dX11_node_27 : decode cX11_node 27 = .ok (.invokevirtual 178, 3) := by decide +kernel
theorem dX11_node_30 : decode cX11_node 30 = .ok (.aastore, 1) := by decide +kernel
theorem dX11_node_31 : decode cX11_node 31 = .ok (.dup, 1) := by decide +kernel
theorem dX11_node_32 : decode cX11_node 32 = .ok (.iconst 1, 1) := by decide +kernel
theorem dX11_node_33 : decode cX11_node 33 = .ok (.aload_n 0, 1) := by decide +kernel
theorem dX11_node_34 : decode cX11_node 34 = .ok (.iload_n 3, 1) := by decide +kernel
theorem dX11_node_35 : decode cX11_node 35 = .ok (.invokevirtual 178, 3) := by decide +kernel
theorem dX11_node_38 : decode cX11_node 38 = .ok (.aastore, 1) := by decide +kernel
theorem dX11_node_39 : decode cX11_node 39 = .ok (.astore 5, 2) := by decide +kernel
theorem dX11_node_41 : decode cX11_node 41 = .ok (.aload_n 0, 1) := by decide +kernel
theorem dX11_node_42 : decode cX11_node 42 = .ok (.iconst 1, 1) := by decide +kernel
theorem dX11_node_43 : decode cX11_node 43 = .ok (.aload 5, 2) := by decide +kernel
theorem dX11_node_45 : decode cX11_node 45 = .ok (.iconst 0, 1) := by decide +kernel
theorem dX11_node_46 : decode cX11_node 46 = .ok (.aaload, 1) := by decide +kernel
theorem dX11_node_47 : decode cX11_node 47 = .ok (.getfield 182, 3) := by decide +kernel
theorem dX11_node_50 : decode cX11_node 50 = .ok (.iadd, 1) := by decide +kernel
theorem dX11_node_51 : decode cX11_node 51 = .ok (.aload 5, 2) := by decide +kernel
theorem dX11_node_53 : decode cX11_node 53 = .ok (.iconst 1, 1) := by decide +kernel
theorem dX11_node_54 : decode cX11_node 54 = .ok (.aaload, 1) := by decide +kernel
theorem dX11_node_55 : decode cX11_node 55 = .ok (.getfield 182, 3) := by decide +kernel
theorem dX11_node_58 : decode cX11_node 58 = .ok (.iadd, 1) := by decide +kernel
theorem dX11_node_59 : decode cX11_node 59 = .ok (.invokevirtual 167, 3) := by decide +kernel
theorem dX11_node_62 : decode cX11_node 62 = .ok (.aload_n 0, 1) := by decide +kernel
theorem dX11_node_63 : decode cX11_node 63 = .ok (.getfield 12, 3) := by decide +kernel
theorem dX11_node_66 : decode cX11_node 66 = .ok (.iload_n 1, 1) := by decide +kernel
theorem dX11_node_67 : decode cX11_node 67 = .ok (.aload 5, 2) := by decide +kernel
theorem dX11_node_69 : decode cX11_node 69 = .ok (.iconst 0, 1) := by decide +kernel
theorem dX11_node_70 : decode cX11_node 70 = .ok (.iconst 0, 1) := by decide +kernel
theorem dX11_node_71 : decode cX11_node 71 = .ok (.iload_n 1, 1) := by decide +kernel
theorem dX11_node_72 : decode cX11_node 72 = .ok (.ifCond .eq 12, 3) := by decide +kernel
theorem dX11_node_75 : decode cX11_node 75 = .ok (.iload 4, 2) := by decide +kernel
theorem dX11_node_77 : decode cX11_node 77 = .ok (.ifCond .eq 7, 3) := by decide +kernel
theorem dX11_node_80 : decode cX11_node 80 = .ok (.iconst 1, 1) := by decide +kernel
theorem dX11_node_81 : decode cX11_node 81 = .ok (.goto 4, 3) := by decide +kernel
theorem dX11_node_84 : decode cX11_node 84 = .ok (.iconst 0, 1) := by decide +kernel
theorem dX11_node_85 : decode cX11_node 85 = .ok (.invokevirtual 172, 3) := by decide +kernel
theorem dX11_node_88 : decode cX11_node 88 = .ok (.ireturn, 1) := by decide +kernel
theorem dX11_choose_0 : decode cX11_choose 0 = .ok (.iconst 3, 1) := by decide +kernel
theorem dX11_choose_1 : decode cX11_choose 1 = .ok (.anewarray 170, 3) := by decide +kernel
theorem dX11_choose_4 : decode cX11_choose 4 = .ok (.dup, 1) := by decide +kernel
theorem dX11_choose_5 : decode cX11_choose 5 = .ok (.iconst 0, 1) := by decide +kernel
theorem dX11_choose_6 : decode cX11_choose 6 = .ok (.aload_n 0, 1) := by decide +kernel
theorem dX11_choose_7 : decode cX11_choose 7 = .ok (.iload_n 1, 1) := by decide +kernel
theorem dX11_choose_8 : decode cX11_choose 8 = .ok (.invokevirtual 178, 3) := by decide +kernel
theorem dX11_choose_11 : decode cX11_choose 11 = .ok (.aastore, 1) := by decide +kernel
theorem dX11_choose_12 : decode cX11_choose 12 = .ok (.dup, 1) := by decide +kernel
theorem dX11_choose_13 : decode cX11_choose 13 = .ok (.iconst 1, 1) := by decide +kernel
theorem dX11_choose_14 : decode cX11_choose 14 = .ok (.aload_n 0, 1) := by decide +kernel
