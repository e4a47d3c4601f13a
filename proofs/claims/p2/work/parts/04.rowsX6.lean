theorem dX11_choose_15 : decode cX11_choose 15 = .ok (.iload_n 2, 1) := by decide +kernel
theorem dX11_choose_16 : decode cX11_choose 16 = .ok (.invokevirtual 178, 3) := by decide +kernel
theorem dX11_choose_19 : decode cX11_choose 19 = .ok (.aastore, 1) := by decide +kernel
theorem dX11_choose_20 : decode cX11_choose 20 = .ok (.dup, 1) := by decide +kernel
theorem dX11_choose_21 : decode cX11_choose 21 = .ok (.iconst 2, 1) := by decide +kernel
theorem dX11_choose_22 : decode cX11_choose 22 = .ok (.aload_n 0, 1) := by decide +kernel
theorem dX11_choose_23 : decode cX11_choose 23 = .ok (.iload_n 3, 1) := by decide +kernel
theorem dX11_choose_24 : decode cX11_choose 24 = .ok (.invokevirtual 178, 3) := by decide +kernel
theorem dX11_choose_27 : decode cX11_choose 27 = .ok (.aastore, 1) := by decide +kernel
theorem dX11_choose_28 : decode cX11_choose 28 = .ok (.astore 4, 2) := by decide +kernel
theorem dX11_choose_30 : decode cX11_choose 30 = .ok (.aload_n 0, 1) := by decide +kernel
theorem dX11_choose_31 : decode cX11_choose 31 = .ok (.iconst 1, 1) := by decide +kernel
theorem dX11_choose_32 : decode cX11_choose 32 = .ok (.aload 4, 2) := by decide +kernel
theorem dX11_choose_34 : decode cX11_choose 34 = .ok (.iconst 0, 1) := by decide +kernel
theorem dX11_choose_35 : decode cX11_choose 35 = .ok (.aaload, 1) := by decide +kernel
theorem dX11_choose_36 : decode cX11_choose 36 = .ok (.getfield 182, 3) := by decide +kernel
theorem dX11_choose_39 : decode cX11_choose 39 = .ok (.iadd, 1) := by decide +kernel
theorem dX11_choose_40 : decode cX11_choose 40 = .ok (.aload 4, 2) := by decide +kernel
theorem dX11_choose_42 : decode cX11_choose 42 = .ok (.iconst 1, 1) := by decide +kernel
theorem dX11_choose_43 : decode cX11_choose 43 = .ok (.aaload, 1) := by decide +kernel
theorem dX11_choose_44 : decode cX11_choose 44 = .ok (.getfield 182, 3) := by decide +kernel
theorem dX11_choose_47 : decode cX11_choose 47 = .ok (.iadd, 1) := by decide +kernel
theorem dX11_choose_48 : decode cX11_choose 48 = .ok (.aload 4, 2) := by decide +kernel
theorem dX11_choose_50 : decode cX11_choose 50 = .ok (.iconst 2, 1) := by decide +kernel
theorem dX11_choose_51 : decode cX11_choose 51 = .ok (.aaload, 1) := by decide +kernel
theorem dX11_choose_52 : decode cX11_choose 52 = .ok (.getfield 182, 3) := by decide +kernel
theorem dX11_choose_55 : decode cX11_choose 55 = .ok (.iadd, 1) := by decide +kernel
theorem dX11_choose_56 : decode cX11_choose 56 = .ok (.invokevirtual 167, 3) := by decide +kernel
theorem dX11_choose_59 : decode cX11_choose 59 = .ok (.aload_n 0, 1) := by decide +kernel
theorem dX11_choose_60 : decode cX11_choose 60 = .ok (.getfield 12, 3) := by decide +kernel
theorem dX11_choose_63 : decode cX11_choose 63 = .ok (.iconst 3, 1) := by decide +kernel
theorem dX11_choose_64 : decode cX11_choose 64 = .ok (.aload 4, 2) := by decide +kernel
theorem dX11_choose_66 : decode cX11_choose 66 = .ok (.iconst 0, 1) := by decide +kernel
theorem dX11_choose_67 : decode cX11_choose 67 = .ok (.iconst 0, 1) := by decide +kernel
theorem dX11_choose_68 : decode cX11_choose 68 = .ok (.iconst 0, 1) := by decide +kernel
theorem dX11_choose_69 : decode cX11_choose 69 = .ok (.invokevirtual 172, 3) := by decide +kernel
theorem dX11_choose_72 : decode cX11_choose 72 = .ok (.ireturn, 1) := by decide +kernel
theorem dX11_rename_0 : decode cX11_rename 0 = .ok (.iconst 1, 1) := by decide +kernel
theorem dX11_rename_1 : decode cX11_rename 1 = .ok (.anewarray 170, 3) := by decide +kernel
theorem dX11_rename_4 : decode cX11_rename 4 = .ok (.dup, 1) := by decide +kernel
theorem dX11_rename_5 : decode cX11_rename 5 = .ok (.iconst 0, 1) := by decide +kernel
theorem dX11_rename_6 : decode cX11_rename 6 = .ok (.aload_n 0, 1) := by decide +kernel
theorem dX11_rename_7 : decode cX11_rename 7 = .ok (.iload_n 1, 1) := by decide +kernel
theorem dX11_rename_8 : decode cX11_rename 8 = .ok (.invokevirtual 178, 3) := by decide +kernel
theorem dX11_rename_11 : decode cX11_rename 11 = .ok (.aastore, 1) := by decide +kernel
theorem dX11_rename_12 : decode cX11_rename 12 = .ok (.astore 4, 2) := by decide +kernel
theorem dX11_rename_14 : decode cX11_rename 14 = .ok (.aload_n 0, 1) := by decide +kernel
theorem dX11_rename_15 : decode cX11_rename 15 = .ok (.iload_n 2, 1) := by decide +kernel
theorem dX11_rename_16 : decode cX11_rename 16 = .ok (.invokevirtual 145, 3) := by decide +kernel
theorem dX11_rename_19 : decode cX11_rename 19 = .ok (.iload_n 3, 1) := by decide +kernel
theorem dX11_rename_20 : decode cX11_rename 20 = .ok (.iconst (-1), 1) := by decide +kernel
theorem dX11_rename_21 : decode cX11_rename 21 = .ok (.if_icmp .lt 14, 3) := by decide +kernel
theorem dX11_rename_24 : decode cX11_rename 24 = .ok (.iload_n 3, 1) := by decide +kernel
theorem dX11_rename_25 : decode cX11_rename 25 = .ok (.bipush 10, 2) := by decide +kernel
theorem dX11_rename_27 : decode cX11_rename 27 = .ok (.if_icmp .ge 8, 3) := by decide +kernel
theorem dX11_rename_30 : decode cX11_rename 30 = .ok (.iload_n 3, 1) := by decide +kernel
theorem dX11_rename_31 : decode cX11_rename 31 = .ok (.iload_n 2, 1) := by decide +kernel
theorem dX11_rename_32 : decode cX11_rename 32 = .ok (.if_icmp .ne 13, 3) := by decide +kernel
theorem dX11_rename_35 : decode cX11_rename 35 = .ok (.new 42, 3) := by decide +kernel
theorem dX11_rename_38 : decode cX11_rename 38 = .ok (.dup, 1) := by decide +kernel
theorem dX11_rename_39 : decode cX11_rename 39 = .ok (.ldc 185, 2) := by decide +kernel
theorem dX11_rename_41 : decode cX11_rename 41 = .ok (.invokespecial 46, 3) := by decide +kernel
theorem dX11_rename_44 : decode cX11_rename 44 = .ok (.athrow, 1) := by decide +kernel
theorem dX11_rename_45 : decode cX11_rename 45 = .ok (.aload_n 0, 1) := by decide +kernel
theorem dX11_rename_46 : decode cX11_rename 46 = .ok (.iconst 1, 1) := by decide +kernel
theorem dX11_rename_47 : decode cX11_rename 47 = .ok (.aload 4, 2) := by decide +kernel
theorem dX11_rename_49 : decode cX11_rename 49 = .ok (.iconst 0, 1) := by decide +kernel
theorem dX11_rename_50 : decode cX11_rename 50 = .ok (.aaload, 1) := by decide +kernel
theorem dX11_rename_51 : decode cX11_rename 51 = .ok (.getfield 182, 3) := by decide +kernel
theorem dX11_rename_54 : decode cX11_rename 54 = .ok (.iadd, 1) := by decide +kernel
theorem dX11_rename_55 : decode cX11_rename 55 = .ok (.invokevirtual 167, 3) := by decide +kernel
theorem dX11_rename_58 : decode cX11_rename 58 = .ok (.aload_n 0, 1) := by decide +kernel
theorem dX11_rename_59 : decode cX11_rename 59 = .ok (.getfield 12, 3) := by decide +kernel
theorem dX11_rename_62 : decode cX11_rename 62 = .ok (.iload_n 3, 1) := by decide +kernel
theorem dX11_rename_63 : decode cX11_rename 63 = .ok (.ifCond .ge 7, 3) := by decide +kernel
theorem dX11_rename_66 : decode cX11_rename 66 = .ok (.iconst 5, 1) := by decide +kernel
theorem dX11_rename_67 : decode cX11_rename 67 = .ok (.goto 4, 3) := by decide +kernel
theorem dX11_rename_70 : decode cX11_rename 70 = .ok (.iconst 4, 1) := by decide +kernel
theorem dX11_rename_71 : decode cX11_rename 71 = .ok (.aload 4, 2) := by decide +kernel
theorem dX11_rename_73 : decode cX11_rename 73 = .ok (.iload_n 2, 1) := by decide +kernel
theorem dX11_rename_74 : decode cX11_rename 74 = .ok (.iload_n 3, 1) := by decide +kernel
theorem dX11_rename_75 : decode cX11_rename 75 = .ok (.iconst 0, 1) := by decide +kernel
theorem dX11_rename_76 : decode cX11_rename 76 = .ok (.invokevirtual 172, 3) := by decide +kernel
theorem dX11_rename_79 : decode cX11_rename 79 = .ok (.ireturn, 1) := by decide +kernel
theorem dX11_error_0 : decode cX11_error 0 = .ok (.aload_n 0, 1) := by decide +kernel
theorem dX11_error_1 : decode cX11_error 1 = .ok (.getfield 21, 3) := by decide +kernel
theorem dX11_error_4 : decode cX11_error 4 = .ok (.aload_n 0, 1) := by decide +kernel
theorem dX11_error_5 : decode cX11_error 5 = .ok (.iload_n 1, 1) := by decide +kernel
theorem dX11_error_6 : decode cX11_error 6 = .ok (.invokevirtual 178, 3) := by decide +kernel
theorem dX11_error_9 : decode cX11_error 9 = .ok (.invokevirtual 187, 3) := by decide +kernel
theorem dX11_error_12 : decode cX11_error 12 = .ok (.getfield 191, 3) := by decide +kernel
theorem dX11_error_15 : decode cX11_error 15 = .ok (.ireturn, 1) := by decide +kernel
theorem dX11_typeOf_0 : decode cX11_typeOf 0 = .ok (.aload_n 0, 1) := by decide +kernel
theorem dX11_typeOf_1 : decode cX11_typeOf 1 = .ok (.iload_n 1, 1) := by decide +kernel
theorem dX11_typeOf_2 : decode cX11_typeOf 2 = .ok (.invokevirtual 178, 3) := by decide +kernel
theorem dX11_typeOf_5 : decode cX11_typeOf 5 = .ok (.astore_n 3, 1) := by decide +kernel
theorem dX11_typeOf_6 : decode cX11_typeOf 6 = .ok (.aload_n 0, 1) := by decide +kernel
theorem dX11_typeOf_7 : decode cX11_typeOf 7 = .ok (.iload_n 2, 1) := by decide +kernel
theorem dX11_typeOf_8 : decode cX11_typeOf 8 = .ok (.invokevirtual 130, 3) := by decide +kernel
theorem dX11_typeOf_11 : decode cX11_typeOf 11 = .ok (.aload_n 0, 1) := by decide +kernel
theorem dX11_typeOf_12 : decode cX11_typeOf 12 = .ok (.getfield 21, 3) := by decide +kernel
theorem dX11_typeOf_15 : decode cX11_typeOf 15 = .ok (.aload_n 3, 1) := by decide +kernel
theorem dX11_typeOf_16 : decode cX11_typeOf 16 = .ok (.invokevirtual 187, 3) := by decide +kernel
theorem dX11_typeOf_19 : decode cX11_typeOf 19 = .ok (.astore 4, 2) := by decide +kernel
theorem dX11_typeOf_21 : decode cX11_typeOf 21 = .ok (.aload 4, 2) := by decide +kernel
theorem dX11_typeOf_23 : decode cX11_typeOf 23 = .ok (.invokestatic 196, 3) := by decide +kernel
theorem dX11_typeOf_26 : decode cX11_typeOf 26 = .ok (.aload 4, 2) := by decide +kernel
theorem dX11_typeOf_28 : decode cX11_typeOf 28 = .ok (.iload_n 2, 1) := by decide +kernel
theorem dX11_typeOf_29 : decode cX11_typeOf 29 = .ok (.invokevirtual 200, 3) := by decide +kernel
theorem dX11_typeOf_32 : decode cX11_typeOf 32 = .ok (.ifCond .eq 7, 3) := by decide +kernel
theorem dX11_typeOf_35 : decode cX11_typeOf 35 = .ok (.iconst 3, 1) := by decide +kernel
theorem dX11_typeOf_36 : decode cX11_typeOf 36 = .ok (.goto 10, 3) := by decide +kernel
theorem dX11_typeOf_39 : decode cX11_typeOf 39 = .ok (.aload 4, 2) := by decide +kernel
theorem dX11_typeOf_41 : decode cX11_typeOf 41 = .ok (.getfield 203, 3) := by decide +kernel
theorem dX11_typeOf_44 : decode cX11_typeOf 44 = .ok (.iload_n 2, 1) := by decide +kernel
theorem dX11_typeOf_45 : decode cX11_typeOf 45 = .ok (.iaload, 1) := by decide +kernel
theorem dX11_typeOf_46 : decode cX11_typeOf 46 = .ok (.ireturn, 1) := by decide +kernel
theorem dX11_isSameType_0 : decode cX11_isSameType 0 = .ok (.aload_n 0, 1) := by decide +kernel
theorem dX11_isSameType_1 : decode cX11_isSameType 1 = .ok (.iload_n 1, 1) := by decide +kernel
theorem dX11_isSameType_2 : decode cX11_isSameType 2 = .ok (.invokevirtual 178, 3) := by decide +kernel
theorem dX11_isSameType_5 : decode cX11_isSameType 5 = .ok (.astore 5, 2) := by decide +kernel
theorem dX11_isSameType_7 : decode cX11_isSameType 7 = .ok (.aload_n 0, 1) := by decide +kernel
theorem dX11_isSameType_8 : decode cX11_isSameType 8 = .ok (.iload_n 3, 1) := by decide +kernel
theorem dX11_isSameType_9 : decode cX11_isSameType 9 = .ok (.invokevirtual 178, 3) := by decide +kernel
theorem dX11_isSameType_12 : decode cX11_isSameType 12 = .ok (.astore 6, 2) := by decide +kernel
theorem dX11_isSameType_14 : decode cX11_isSameType 14 = .ok (.aload_n 0, 1) := by decide +kernel
theorem dX11_isSameType_15 : decode cX11_isSameType 15 = .ok (.iload_n 2, 1) := by decide +kernel
theorem dX11_isSameType_16 : decode cX11_isSameType 16 = .ok (.invokevirtual 130, 3) := by decide +kernel
theorem dX11_isSameType_19 : decode cX11_isSameType 19 = .ok (.aload_n 0, 1) := by decide +kernel
theorem dX11_isSameType_20 : decode cX11_isSameType 20 = .ok (.iload 4, 2) := by decide +kernel
theorem dX11_isSameType_22 : decode cX11_isSameType 22 = .ok (.invokevirtual 130, 3) := by decide +kernel
theorem dX11_isSameType_25 : decode cX11_isSameType 25 = .ok (.aload_n 0, 1) := by decide +kernel
theorem dX11_isSameType_26 : decode cX11_isSameType 26 = .ok (.getfield 21, 3) := by decide +kernel
theorem dX11_isSameType_29 : decode cX11_isSameType 29 = .ok (.aload 5, 2) := by decide +kernel
theorem dX11_isSameType_31 : decode cX11_isSameType 31 = .ok (.invokevirtual 187, 3) := by decide +kernel
theorem dX11_isSameType_34 : decode cX11_isSameType 34 = .ok (.astore 7, 2) := by decide +kernel
theorem dX11_isSameType_36 : decode cX11_isSameType 36 = .ok (.aload_n 0, 1) := by decide +kernel
theorem dX11_isSameType_37 : decode cX11_isSameType 37 = .ok (.getfield 21, 3) := by decide +kernel
theorem dX11_isSameType_40 : decode cX11_isSameType 40 = .ok (.aload 6, 2) := by decide +kernel
theorem dX11_isSameType_42 : decode cX11_isSameType 42 = .ok (.invokevirtual 187, 3) := by decide +kernel
theorem dX11_isSameType_45 : decode cX11_isSameType 45 = .ok (.astore 8, 2) := by decide +kernel
theorem dX11_isSameType_47 : decode cX11_isSameType 47 = .ok (.aload 7, 2) := by decide +kernel
theorem dX11_isSameType_49 : decode cX11_isSameType 49 = .ok (.invokestatic 196, 3) := by decide +kernel
theorem dX11_isSameType_52 : decode cX11_isSameType 52 = .ok (.aload 8, 2) := by decide +kernel
theorem dX11_isSameType_54 : decode cX11_isSameType 54 = .ok (.invokestatic 196, 3) := by decide +kernel
theorem dX11_isSameType_57 : decode cX11_isSameType 57 = .ok (.aload 7, 2) := by decide +kernel
theorem dX11_isSameType_59 : decode cX11_isSameType 59 = .ok (.getfield 203, 3) := by decide +kernel
theorem dX11_isSameType_62 : decode cX11_isSameType 62 = .ok (.iload_n 2, 1) := by decide +kernel
theorem dX11_isSameType_63 : decode cX11_isSameType 63 = .ok (.iaload, 1) := by decide +kernel
theorem dX11_isSameType_64 : decode cX11_isSameType 64 = .ok (.iconst 2, 1) := by decide +kernel
theorem dX11_isSameType_65 : decode cX11_isSameType 65 = .ok (.if_icmp .ne 55, 3) := by decide +kernel
theorem dX11_isSameType_68 : decode cX11_isSameType 68 = .ok (.aload 8, 2) := by decide +kernel
theorem dX11_isSameType_70 : decode cX11_isSameType 70 = .ok (.getfield 203, 3) := by decide +kernel
theorem dX11_isSameType_73 : decode cX11_isSameType 73 = .ok (.iload 4, 2) := by decide +kernel
theorem dX11_isSameType_75 : decode cX11_isSameType 75 = .ok (.iaload, 1) := by decide +kernel
theorem dX11_isSameType_76 : decode cX11_isSameType 76 = .ok (.iconst 2, 1) := by decide +kernel
theorem dX11_isSameType_77 : decode cX11_isSameType 77 = .ok (.if_icmp .ne 43, 3) := by decide +kernel
theorem dX11_isSameType_80 : decode cX11_isSameType 80 = .ok (.aload 7, 2) := by decide +kernel
theorem dX11_isSameType_82 : decode cX11_isSameType 82 = .ok (.getfield 204, 3) := by decide +kernel
theorem dX11_isSameType_85 : decode cX11_isSameType 85 = .ok (.iload_n 2, 1) := by decide +kernel
theorem dX11_isSameType_86 : decode cX11_isSameType 86 = .ok (.aaload, 1) := by decide +kernel
theorem dX11_isSameType_87 : decode cX11_isSameType 87 = .ok (.aload 7, 2) := by decide +kernel
theorem dX11_isSameType_89 : decode cX11_isSameType 89 = .ok (.getfield 208, 3) := by decide +kernel
theorem dX11_isSameType_92 : decode cX11_isSameType 92 = .ok (.iload_n 2, 1) := by decide +kernel
theorem dX11_isSameType_93 : decode cX11_isSameType 93 = .ok (.iaload, 1) := by decide +kernel
theorem dX11_isSameType_94 : decode cX11_isSameType 94 = .ok (.aload 8, 2) := by decide +kernel
theorem dX11_isSameType_96 : decode cX11_isSameType 96 = .ok (.getfield 204, 3) := by decide +kernel
theorem dX11_isSameType_99 : decode cX11_isSameType 99 = .ok (.iload 4, 2) := by decide +kernel
theorem dX11_isSameType_101 : decode cX11_isSameType 101 = .ok (.aaload, 1) := by decide +kernel
theorem dX11_isSameType_102 : decode cX11_isSameType 102 = .ok (.aload 8, 2) := by decide +kernel
theorem dX11_isSameType_104 : decode cX11_isSameType 104 = .ok (.getfield 208, 3) := by decide +kernel
theorem dX11_isSameType_107 : decode cX11_isSameType 107 = .ok (.iload 4, 2) := by decide +kernel
theorem dX11_isSameType_109 : decode cX11_isSameType 109 = .ok (.iaload, 1) := by decide +kernel
theorem dX11_isSameType_110 : decode cX11_isSameType 110 = .ok (.invokestatic 211, 3) := by decide +kernel
theorem dX11_isSameType_113 : decode cX11_isSameType 113 = .ok (.ifCond .eq 7, 3) := by decide +kernel
theorem dX11_isSameType_116 : decode cX11_isSameType 116 = .ok (.iconst 1, 1) := by decide +kernel
theorem dX11_isSameType_117 : decode cX11_isSameType 117 = .ok (.goto 4, 3) := by decide +kernel
theorem dX11_isSameType_120 : decode cX11_isSameType 120 = .ok (.iconst 0, 1) := by decide +kernel
theorem dX11_isSameType_121 : decode cX11_isSameType 121 = .ok (.ireturn, 1) := by decide +kernel
theorem dX11_valueOf_0 : decode cX11_valueOf 0 = .ok (.aload_n 0, 1) := by decide +kernel
theorem dX11_valueOf_1 : decode cX11_valueOf 1 = .ok (.iload_n 1, 1) := by decide +kernel
theorem dX11_valueOf_2 : decode cX11_valueOf 2 = .ok (.invokevirtual 178, 3) := by decide +kernel
theorem dX11_valueOf_5 : decode cX11_valueOf 5 = .ok (.astore_n 3, 1) := by decide +kernel
theorem dX11_valueOf_6 : decode cX11_valueOf 6 = .ok (.aload_n 0, 1) := by decide +kernel
theorem dX11_valueOf_7 : decode cX11_valueOf 7 = .ok (.iload_n 2, 1) := by decide +kernel
theorem dX11_valueOf_8 : decode cX11_valueOf 8 = .ok (.invokevirtual 145, 3) := by decide +kernel
theorem dX11_valueOf_11 : decode cX11_valueOf 11 = .ok (.aload_n 0, 1) := by decide +kernel
theorem dX11_valueOf_12 : decode cX11_valueOf 12 = .ok (.getfield 21, 3) := by decide +kernel
theorem dX11_valueOf_15 : decode cX11_valueOf 15 = .ok (.aload_n 3, 1) := by decide +kernel
theorem dX11_valueOf_16 : decode cX11_valueOf 16 = .ok (.invokevirtual 187, 3) := by decide +kernel
theorem dX11_valueOf_19 : decode cX11_valueOf 19 = .ok (.astore 4, 2) := by decide +kernel
theorem dX11_valueOf_21 : decode cX11_valueOf 21 = .ok (.aload 4, 2) := by decide +kernel
theorem dX11_valueOf_23 : decode cX11_valueOf 23 = .ok (.invokestatic 196, 3) := by decide +kernel
theorem dX11_valueOf_26 : decode cX11_valueOf 26 = .ok (.aload 4, 2) := by decide +kernel
theorem dX11_valueOf_28 : decode cX11_valueOf 28 = .ok (.getfield 215, 3) := by decide +kernel
theorem dX11_valueOf_31 : decode cX11_valueOf 31 = .ok (.iload_n 2, 1) := by decide +kernel
theorem dX11_valueOf_32 : decode cX11_valueOf 32 = .ok (.iaload, 1) := by decide +kernel
theorem dX11_valueOf_33 : decode cX11_valueOf 33 = .ok (.ireturn, 1) := by decide +kernel
theorem dX11_size_0 : decode cX11_size 0 = .ok (.aload_n 0, 1) := by decide +kernel
theorem dX11_size_1 : decode cX11_size 1 = .ok (.iload_n 1, 1) := by decide +kernel
theorem dX11_size_2 : decode cX11_size 2 = .ok (.invokevirtual 178, 3) := by decide +kernel
theorem dX11_size_5 : decode cX11_size 5 = .ok (.astore_n 3, 1) := by decide +kernel
theorem dX11_size_6 : decode cX11_size 6 = .ok (.aload_n 0, 1) := by decide +kernel
theorem dX11_size_7 : decode cX11_size 7 = .ok (.iload_n 2, 1) := by decide +kernel
theorem dX11_size_8 : decode cX11_size 8 = .ok (.invokevirtual 145, 3) := by decide +kernel
theorem dX11_size_11 : decode cX11_size 11 = .ok (.aload_n 0, 1) := by decide +kernel
theorem dX11_size_12 : decode cX11_size 12 = .ok (.getfield 21, 3) := by decide +kernel
theorem dX11_size_15 : decode cX11_size 15 = .ok (.aload_n 3, 1) := by decide +kernel
theorem dX11_size_16 : decode cX11_size 16 = .ok (.invokevirtual 187, 3) := by decide +kernel
theorem dX11_size_19 : decode cX11_size 19 = .ok (.astore 4, 2) := by decide +kernel
theorem dX11_size_21 : decode cX11_size 21 = .ok (.aload 4, 2) := by decide +kernel
theorem dX11_size_23 : decode cX11_size 23 = .ok (.invokestatic 196, 3) := by decide +kernel
theorem dX11_size_26 : decode cX11_size 26 = .ok (.aload 4, 2) := by decide +kernel
theorem dX11_size_28 : decode cX11_size 28 = .ok (.getfield 208, 3) := by decide +kernel
theorem dX11_size_31 : decode cX11_size 31 = .ok (.bipush 6, 2) := by decide +kernel
theorem dX11_size_33 : decode cX11_size 33 = .ok (.iload_n 2, 1) := by decide +kernel
theorem dX11_size_34 : decode cX11_size 34 = .ok (.iadd, 1) := by decide +kernel
theorem dX11_size_35 : decode cX11_size 35 = .ok (.iaload, 1) := by decide +kernel
theorem dX11_size_36 : decode cX11_size 36 = .ok (.ireturn, 1) := by decide +kernel
theorem dX11_run_0 : decode cX11_run 0 = .ok (.aload_n 0, 1) := by decide +kernel
theorem dX11_run_1 : decode cX11_run 1 = .ok (.iload_n 1, 1) := by decide +kernel
theorem dX11_run_2 : decode cX11_run 2 = .ok (.invokevirtual 178, 3) := by decide +kernel
theorem dX11_run_5 : decode cX11_run 5 = .ok (.astore_n 2, 1) := by decide +kernel
theorem dX11_run_6 : decode cX11_run 6 = .ok (.aload_n 0, 1) := by decide +kernel
theorem dX11_run_7 : decode cX11_run 7 = .ok (.getfield 21, 3) := by decide +kernel
theorem dX11_run_10 : decode cX11_run 10 = .ok (.aload_n 2, 1) := by decide +kernel
theorem dX11_run_11 : decode cX11_run 11 = .ok (.invokevirtual 187, 3) := by decide +kernel
theorem dX11_run_14 : decode cX11_run 14 = .ok (.getfield 191, 3) := by decide +kernel
theorem dX11_run_17 : decode cX11_run 17 = .ok (.ifCond .eq 6, 3) := by decide +kernel
theorem dX11_run_20 : decode cX11_run 20 = .ok (.bipush 10, 2) := by decide +kernel
theorem dX11_run_22 : decode cX11_run 22 = .ok (.ireturn, 1) := by decide +kernel
theorem dX11_run_23 : decode cX11_run 23 = .ok (.aload_n 0, 1) := by decide +kernel
theorem dX11_run_24 : decode cX11_run 24 = .ok (.getfield 35, 3) := by decide +kernel
theorem dX11_run_27 : decode cX11_run 27 = .ok (.aload_n 2, 1) := by decide +kernel
theorem dX11_run_28 : decode cX11_run 28 = .ok (.invokevirtual 218, 3) := by decide +kernel
theorem dX11_run_31 : decode cX11_run 31 = .ok (.istore_n 3, 1) := by decide +kernel
theorem dX11_run_32 : decode cX11_run 32 = .ok (.iload_n 3, 1) := by decide +kernel
theorem dX11_run_33 : decode cX11_run 33 = .ok (.ifCond .ne 28, 3) := by decide +kernel
theorem dX11_run_36 : decode cX11_run 36 = .ok (.aload_n 0, 1) := by decide +kernel
theorem dX11_run_37 : decode cX11_run 37 = .ok (.getfield 39, 3) := by decide +kernel
theorem dX11_run_40 : decode cX11_run 40 = .ok (.astore 4, 2) := by decide +kernel
theorem dX11_run_42 : decode cX11_run 42 = .ok (.aload_n 0, 1) := by decide +kernel
theorem dX11_run_43 : decode cX11_run 43 = .ok (.aload_n 0, 1) := by decide +kernel
theorem dX11_run_44 : decode cX11_run 44 = .ok (.getfield 35, 3) := by decide +kernel
theorem dX11_run_47 : decode cX11_run 47 = .ok (.putfield 39, 3) := by decide +kernel
theorem dX11_run_50 : decode cX11_run 50 = .ok (.aload_n 0, 1) := by decide +kernel
theorem dX11_run_51 : decode cX11_run 51 = .ok (.aload 4, 2) := by decide +kernel
theorem dX11_run_53 : decode cX11_run 53 = .ok (.putfield 35, 3) := by decide +kernel
theorem dX11_run_56 : decode cX11_run 56 = .ok (.aload_n 0, 1) := by decide +kernel
theorem dX11_run_57 : decode cX11_run 57 = .ok (.iconst 1, 1) := by decide +kernel
theorem dX11_run_58 : decode cX11_run 58 = .ok (.putfield 222, 3) := by decide +kernel
theorem dX11_run_61 : decode cX11_run 61 = .ok (.iload_n 3, 1) := by decide +kernel
theorem dX11_run_62 : decode cX11_run 62 = .ok (.ireturn, 1) := by decide +kernel
theorem dX11_result_0 : decode cX11_result 0 = .ok (.aload_n 0, 1) := by decide +kernel
theorem dX11_result_1 : decode cX11_result 1 = .ok (.iload_n 1, 1) := by decide +kernel
theorem dX11_result_2 : decode cX11_result 2 = .ok (.invokevirtual 145, 3) := by decide +kernel
theorem dX11_result_5 : decode cX11_result 5 = .ok (.aload_n 0, 1) := by decide +kernel
theorem dX11_result_6 : decode cX11_result 6 = .ok (.getfield 222, 3) := by decide +kernel
theorem dX11_result_9 : decode cX11_result 9 = .ok (.ifCond .eq 15, 3) := by decide +kernel
theorem dX11_result_12 : decode cX11_result 12 = .ok (.aload_n 0, 1) := by decide +kernel
theorem dX11_result_13 : decode cX11_result 13 = .ok (.getfield 39, 3) := by decide +kernel
theorem dX11_result_16 : decode cX11_result 16 = .ok (.getfield 226, 3) := by decide +kernel
theorem dX11_result_19 : decode cX11_result 19 = .ok (.iload_n 1, 1) := by decide +kernel
theorem dX11_result_20 : decode cX11_result 20 = .ok (.iaload, 1) := by decide +kernel
theorem dX11_result_21 : decode cX11_result 21 = .ok (.ifCond .ge 13, 3) := by decide +kernel
theorem dX11_result_24 : decode cX11_result 24 = .ok (.new 63, 3) := by decide +kernel
theorem dX11_result_27 : decode cX11_result 27 = .ok (.dup, 1) := by decide +kernel
theorem dX11_result_28 : decode cX11_result 28 = .ok (.ldc 229, 2) := by decide +kernel
theorem dX11_result_30 : decode cX11_result 30 = .ok (.invokespecial 67, 3) := by decide +kernel
theorem dX11_result_33 : decode cX11_result 33 = .ok (.athrow, 1) := by decide +kernel
theorem dX11_result_34 : decode cX11_result 34 = .ok (.aload_n 0, 1) := by decide +kernel
theorem dX11_result_35 : decode cX11_result 35 = .ok (.getfield 39, 3) := by decide +kernel
theorem dX11_result_38 : decode cX11_result 38 = .ok (.getfield 226, 3) := by decide +kernel
theorem dX11_result_41 : decode cX11_result 41 = .ok (.iload_n 1, 1) := by decide +kernel
theorem dX11_result_42 : decode cX11_result 42 = .ok (.iaload, 1) := by decide +kernel
theorem dX11_result_43 : decode cX11_result 43 = .ok (.istore_n 3, 1) := by decide +kernel
theorem dX11_result_44 : decode cX11_result 44 = .ok (.iload_n 2, 1) := by decide +kernel
theorem dX11_result_45 : decode cX11_result 45 = .ok (.ifCond .lt 20, 3) := by decide +kernel
theorem dX11_result_48 : decode cX11_result 48 = .ok (.iload_n 2, 1) := by decide +kernel
theorem dX11_result_49 : decode cX11_result 49 = .ok (.i2l, 1) := by decide +kernel
theorem dX11_result_50 : decode cX11_result 50 = .ok (.aload_n 0, 1) := by decide +kernel
theorem dX11_result_51 : decode cX11_result 51 = .ok (.getfield 39, 3) := by decide +kernel
theorem dX11_result_54 : decode cX11_result 54 = .ok (.getfield 231, 3) := by decide +kernel
theorem dX11_result_57 : decode cX11_result 57 = .ok (.iload_n 3, 1) := by decide +kernel
theorem dX11_result_58 : decode cX11_result 58 = .ok (.invokevirtual 234, 3) := by decide +kernel
theorem dX11_result_61 : decode cX11_result 61 = .ok (.lcmp, 1) := by decide +kernel
theorem dX11_result_62 : decode cX11_result 62 = .ok (.ifCond .lt 13, 3) := by decide +kernel
theorem dX11_result_65 : decode cX11_result 65 = .ok (.new 162, 3) := by decide +kernel
theorem dX11_result_68 : decode cX11_result 68 = .ok (.dup, 1) := by decide +kernel
theorem dX11_result_69 : decode cX11_result 69 = .ok (.ldc 240, 2) := by decide +kernel
theorem dX11_result_71 : decode cX11_result 71 = .ok (.invokespecial 166, 3) := by decide +kernel
theorem dX11_result_74 : decode cX11_result 74 = .ok (.athrow, 1) := by decide +kernel
theorem dX11_result_75 : decode cX11_result 75 = .ok (.aload_n 0, 1) := by decide +kernel
theorem dX11_result_76 : decode cX11_result 76 = .ok (.getfield 39, 3) := by decide +kernel
theorem dX11_result_79 : decode cX11_result 79 = .ok (.getfield 231, 3) := by decide +kernel
theorem dX11_result_82 : decode cX11_result 82 = .ok (.iload_n 3, 1) := by decide +kernel
theorem dX11_result_83 : decode cX11_result 83 = .ok (.iload_n 2, 1) := by decide +kernel
theorem dX11_result_84 : decode cX11_result 84 = .ok (.invokevirtual 242, 3) := by decide +kernel
theorem dX11_result_87 : decode cX11_result 87 = .ok (.ireturn, 1) := by decide +kernel
theorem dX11_logged_0 : decode cX11_logged 0 = .ok (.aload_n 0, 1) := by decide +kernel
theorem dX11_logged_1 : decode cX11_logged 1 = .ok (.getfield 222, 3) := by decide +kernel
theorem dX11_logged_4 : decode cX11_logged 4 = .ok (.ifCond .eq 13, 3) := by decide +kernel
theorem dX11_logged_7 : decode cX11_logged 7 = .ok (.aload_n 0, 1) := by decide +kernel
theorem dX11_logged_8 : decode cX11_logged 8 = .ok (.getfield 39, 3) := by decide +kernel
theorem dX11_logged_11 : decode cX11_logged 11 = .ok (.getfield 245, 3) := by decide +kernel
theorem dX11_logged_14 : decode cX11_logged 14 = .ok (.goto 4, 3) := by decide +kernel
theorem dX11_logged_17 : decode cX11_logged 17 = .ok (.iconst 0, 1) := by decide +kernel
theorem dX11_logged_18 : decode cX11_logged 18 = .ok (.ireturn, 1) := by decide +kernel
theorem dX11_log_0 : decode cX11_log 0 = .ok (.iload_n 1, 1) := by decide +kernel
theorem dX11_log_1 : decode cX11_log 1 = .ok (.ifCond .lt 21, 3) := by decide +kernel
theorem dX11_log_4 : decode cX11_log 4 = .ok (.aload_n 0, 1) := by decide +kernel
theorem dX11_log_5 : decode cX11_log 5 = .ok (.getfield 222, 3) := by decide +kernel
theorem dX11_log_8 : decode cX11_log 8 = .ok (.ifCond .eq 14, 3) := by decide +kernel
theorem dX11_log_11 : decode cX11_log 11 = .ok (.iload_n 1, 1) := by decide +kernel
theorem dX11_log_12 : decode cX11_log 12 = .ok (.aload_n 0, 1) := by decide +kernel
theorem dX11_log_13 : decode cX11_log 13 = .ok (.getfield 39, 3) := by decide +kernel
theorem dX11_log_16 : decode cX11_log 16 = .ok (.getfield 245, 3) := by decide +kernel
theorem dX11_log_19 : decode cX11_log 19 = .ok (.if_icmp .lt 13, 3) := by decide +kernel
theorem dX11_log_22 : decode cX11_log 22 = .ok (.new 162, 3) := by decide +kernel
theorem dX11_log_25 : decode cX11_log 25 = .ok (.dup, 1) := by decide +kernel
theorem dX11_log_26 : decode cX11_log 26 = .ok (.ldc 248, 2) := by decide +kernel
theorem dX11_log_28 : decode cX11_log 28 = .ok (.invokespecial 166, 3) := by decide +kernel
theorem dX11_log_31 : decode cX11_log 31 = .ok (.athrow, 1) := by decide +kernel
theorem dX11_log_32 : decode cX11_log 32 = .ok (.aload_n 0, 1) := by decide +kernel
theorem dX11_log_33 : decode cX11_log 33 = .ok (.getfield 39, 3) := by decide +kernel
theorem dX11_log_36 : decode cX11_log 36 = .ok (.getfield 250, 3) := by decide +kernel
theorem dX11_log_39 : decode cX11_log 39 = .ok (.iload_n 1, 1) := by decide +kernel
theorem dX11_log_40 : decode cX11_log 40 = .ok (.iaload, 1) := by decide +kernel
theorem dX11_log_41 : decode cX11_log 41 = .ok (.ireturn, 1) := by decide +kernel
theorem dX11_total_0 : decode cX11_total 0 = .ok (.aload_n 0, 1) := by decide +kernel
theorem dX11_total_1 : decode cX11_total 1 = .ok (.getfield 222, 3) := by decide +kernel
theorem dX11_total_4 : decode cX11_total 4 = .ok (.ifCond .eq 13, 3) := by decide +kernel
theorem dX11_total_7 : decode cX11_total 7 = .ok (.aload_n 0, 1) := by decide +kernel
theorem dX11_total_8 : decode cX11_total 8 = .ok (.getfield 39, 3) := by decide +kernel
theorem dX11_total_11 : decode cX11_total 11 = .ok (.getfield 253, 3) := by decide +kernel
theorem dX11_total_14 : decode cX11_total 14 = .ok (.goto 4, 3) := by decide +kernel
theorem dX11_total_17 : decode cX11_total 17 = .ok (.iconst 0, 1) := by decide +kernel
theorem dX11_total_18 : decode cX11_total 18 = .ok (.ireturn, 1) := by decide +kernel
theorem dX11_dropped_0 : decode cX11_dropped 0 = .ok (.aload_n 0, 1) := by decide +kernel
theorem dX11_dropped_1 : decode cX11_dropped 1 = .ok (.getfield 222, 3) := by decide +kernel
theorem dX11_dropped_4 : decode cX11_dropped 4 = .ok (.ifCond .eq 21, 3) := by decide +kernel
theorem dX11_dropped_7 : decode cX11_dropped 7 = .ok (.aload_n 0, 1) := by decide +kernel
theorem dX11_dropped_8 : decode cX11_dropped 8 = .ok (.getfield 39, 3) := by decide +kernel
theorem dX11_dropped_11 : decode cX11_dropped 11 = .ok (.getfield 253, 3) := by decide +kernel
theorem dX11_dropped_14 : decode cX11_dropped 14 = .ok (.aload_n 0, 1) := by decide +kernel
theorem dX11_dropped_15 : decode cX11_dropped 15 = .ok (.getfield 39, 3) := by decide +kernel
theorem dX11_dropped_18 : decode cX11_dropped 18 = .ok (.getfield 256, 3) := by decide +kernel
theorem dX11_dropped_21 : decode cX11_dropped 21 = .ok (.isub, 1) := by decide +kernel
theorem dX11_dropped_22 : decode cX11_dropped 22 = .ok (.goto 4, 3) := by decide +kernel
theorem dX11_dropped_25 : decode cX11_dropped 25 = .ok (.iconst 0, 1) := by decide +kernel
theorem dX11_dropped_26 : decode cX11_dropped 26 = .ok (.ireturn, 1) := by decide +kernel
theorem dX11_build_0 : decode cX11_build 0 = .ok (.aload_n 0, 1) := by decide +kernel
theorem dX11_build_1 : decode cX11_build 1 = .ok (.iload_n 1, 1) := by decide +kernel
theorem dX11_build_2 : decode cX11_build 2 = .ok (.invokevirtual 178, 3) := by decide +kernel
theorem dX11_build_5 : decode cX11_build 5 = .ok (.astore_n 2, 1) := by decide +kernel
theorem dX11_build_6 : decode cX11_build 6 = .ok (.aload_n 0, 1) := by decide +kernel
theorem dX11_build_7 : decode cX11_build 7 = .ok (.getfield 21, 3) := by decide +kernel
theorem dX11_build_10 : decode cX11_build 10 = .ok (.aload_n 2, 1) := by decide +kernel
theorem dX11_build_11 : decode cX11_build 11 = .ok (.invokevirtual 187, 3) := by decide +kernel
theorem dX11_build_14 : decode cX11_build 14 = .ok (.pop, 1) := by decide +kernel
theorem dX11_build_15 : decode cX11_build 15 = .ok (.iconst 0, 1) := by decide +kernel
theorem dX11_build_16 : decode cX11_build 16 = .ok (.istore_n 3, 1) := by decide +kernel
theorem dX11_build_17 : decode cX11_build 17 = .ok (.iconst 0, 1) := by decide +kernel
theorem dX11_build_18 : decode cX11_build 18 = .ok (.istore 4, 2) := by decide +kernel
theorem dX11_build_20 : decode cX11_build 20 = .ok (.iload 4, 2) := by decide +kernel
theorem dX11_build_22 : decode cX11_build 22 = .ok (.aload_n 2, 1) := by decide +kernel
theorem dX11_build_23 : decode cX11_build 23 = .ok (.getfield 259, 3) := by decide +kernel
theorem dX11_build_26 : decode cX11_build 26 = .ok (.if_icmp .gt 61, 3) := by decide +kernel
theorem dX11_build_29 : decode cX11_build 29 = .ok (.iload 4, 2) := by decide +kernel
theorem dX11_build_31 : decode cX11_build 31 = .ok (.aload_n 0, 1) := by decide +kernel
theorem dX11_build_32 : decode cX11_build 32 = .ok (.getfield 12, 3) := by decide +kernel
theorem dX11_build_35 : decode cX11_build 35 = .ok (.getfield 262, 3) := by decide +kernel
theorem dX11_build_38 : decode cX11_build 38 = .ok (.invokevirtual 266, 3) := by decide +kernel
theorem dX11_build_41 : decode cX11_build 41 = .ok (.if_icmp .ge 46, 3) := by decide +kernel
theorem dX11_build_44 : decode cX11_build 44 = .ok (.aload_n 0, 1) := by decide +kernel
theorem dX11_build_45 : decode cX11_build 45 = .ok (.getfield 12, 3) := by decide +kernel
theorem dX11_build_48 : decode cX11_build 48 = .ok (.getfield 262, 3) := by decide +kernel
theorem dX11_build_51 : decode cX11_build 51 = .ok (.iload 4, 2) := by decide +kernel
theorem dX11_build_53 : decode cX11_build 53 = .ok (.invokevirtual 271, 3) := by decide +kernel
theorem dX11_build_56 : decode cX11_build 56 = .ok (.checkcast 170, 3) := by decide +kernel
theorem dX11_build_59 : decode cX11_build 59 = .ok (.astore 5, 2) := by decide +kernel
theorem dX11_build_61 : decode cX11_build 61 = .ok (.aload 5, 2) := by decide +kernel
theorem dX11_build_63 : decode cX11_build 63 = .ok (.getfield 275, 3) := by decide +kernel
theorem dX11_build_66 : decode cX11_build 66 = .ok (.ifCond .eq 15, 3) := by decide +kernel
theorem dX11_build_69 : decode cX11_build 69 = .ok (.aload_n 0, 1) := by decide +kernel
theorem dX11_build_70 : decode cX11_build 70 = .ok (.aload 5, 2) := by decide +kernel
theorem dX11_build_72 : decode cX11_build 72 = .ok (.invokevirtual 278, 3) := by decide +kernel
theorem dX11_build_75 : decode cX11_build 75 = .ok (.ifCond .eq 6, 3) := by decide +kernel
theorem dX11_build_78 : decode cX11_build 78 = .ok (.iinc 3 1, 3) := by decide +kernel
theorem dX11_build_81 : decode cX11_build 81 = .ok (.iinc 4 1, 3) := by decide +kernel
theorem dX11_build_84 : decode cX11_build 84 = .ok (.goto (-64), 3) := by decide +kernel
theorem dX11_build_87 : decode cX11_build 87 = .ok (.iload_n 3, 1) := by decide +kernel
theorem dX11_build_88 : decode cX11_build 88 = .ok (.ireturn, 1) := by decide +kernel
theorem dX11_compiled_0 : decode cX11_compiled 0 = .ok (.aload_n 0, 1) := by decide +kernel
theorem dX11_compiled_1 : decode cX11_compiled 1 = .ok (.iload_n 1, 1) := by decide +kernel
theorem dX11_compiled_2 : decode cX11_compiled 2 = .ok (.invokevirtual 178, 3) := by decide +kernel
theorem dX11_compiled_5 : decode cX11_compiled 5 = .ok (.getfield 282, 3) := by decide +kernel
theorem dX11_compiled_8 : decode cX11_compiled 8 = .ok (.ireturn, 1) := by decide +kernel
theorem dX11_isFresh_0 : decode cX11_isFresh 0 = .ok (.aload_n 0, 1) := by decide +kernel
theorem dX11_isFresh_1 : decode cX11_isFresh 1 = .ok (.iload_n 1, 1) := by decide +kernel
theorem dX11_isFresh_2 : decode cX11_isFresh 2 = .ok (.invokevirtual 178, 3) := by decide +kernel
theorem dX11_isFresh_5 : decode cX11_isFresh 5 = .ok (.astore_n 2, 1) := by decide +kernel
theorem dX11_isFresh_6 : decode cX11_isFresh 6 = .ok (.aload_n 2, 1) := by decide +kernel
theorem dX11_isFresh_7 : decode cX11_isFresh 7 = .ok (.getfield 282, 3) := by decide +kernel
theorem dX11_isFresh_10 : decode cX11_isFresh 10 = .ok (.ifCond .ne 5, 3) := by decide +kernel
theorem dX11_isFresh_13 : decode cX11_isFresh 13 = .ok (.iconst 1, 1) := by decide +kernel
theorem dX11_isFresh_14 : decode cX11_isFresh 14 = .ok (.ireturn, 1) := by decide +kernel
theorem dX11_isFresh_15 : decode cX11_isFresh 15 = .ok (.aload_n 0, 1) := by decide +kernel
theorem dX11_isFresh_16 : decode cX11_isFresh 16 = .ok (.getfield 28, 3) := by decide +kernel
theorem dX11_isFresh_19 : decode cX11_isFresh 19 = .ok (.invokevirtual 285, 3) := by decide +kernel
theorem dX11_isFresh_22 : decode cX11_isFresh 22 = .ok (.aload_n 0, 1) := by decide +kernel
theorem dX11_isFresh_23 : decode cX11_isFresh 23 = .ok (.getfield 28, 3) := by decide +kernel
theorem dX11_isFresh_26 : decode cX11_isFresh 26 = .ok (.aload_n 0, 1) := by decide +kernel
theorem dX11_isFresh_27 : decode cX11_isFresh 27 = .ok (.getfield 21, 3) := by decide +kernel
theorem dX11_isFresh_30 : decode cX11_isFresh 30 = .ok (.aload_n 2, 1) := by decide +kernel
theorem dX11_isFresh_31 : decode cX11_isFresh 31 = .ok (.invokevirtual 187, 3) := by decide +kernel
theorem dX11_isFresh_34 : decode cX11_isFresh 34 = .ok (.iconst (-1), 1) := by decide +kernel
theorem dX11_isFresh_35 : decode cX11_isFresh 35 = .ok (.invokevirtual 288, 3) := by decide +kernel
theorem dX11_isFresh_38 : decode cX11_isFresh 38 = .ok (.aload_n 0, 1) := by decide +kernel
theorem dX11_isFresh_39 : decode cX11_isFresh 39 = .ok (.getfield 28, 3) := by decide +kernel
theorem dX11_isFresh_42 : decode cX11_isFresh 42 = .ok (.aload_n 2, 1) := by decide +kernel
theorem dX11_isFresh_43 : decode cX11_isFresh 43 = .ok (.getfield 292, 3) := by decide +kernel
theorem dX11_isFresh_46 : decode cX11_isFresh 46 = .ok (.invokevirtual 295, 3) := by decide +kernel
theorem dX11_isFresh_49 : decode cX11_isFresh 49 = .ok (.ireturn, 1) := by decide +kernel
theorem dX11_compileIfChanged_0 : decode cX11_compileIfChanged 0 = .ok (.aload_n 0, 1) := by decide +kernel
theorem dX11_compileIfChanged_1 : decode cX11_compileIfChanged 1 = .ok (.getfield 28, 3) := by decide +kernel
theorem dX11_compileIfChanged_4 : decode cX11_compileIfChanged 4 = .ok (.invokevirtual 285, 3) := by decide +kernel
theorem dX11_compileIfChanged_7 : decode cX11_compileIfChanged 7 = .ok (.aload_n 0, 1) := by decide +kernel
theorem dX11_compileIfChanged_8 : decode cX11_compileIfChanged 8 = .ok (.aload_n 1, 1) := by decide +kernel
theorem dX11_compileIfChanged_9 : decode cX11_compileIfChanged 9 = .ok (.invokevirtual 299, 3) := by decide +kernel
theorem dX11_compileIfChanged_12 : decode cX11_compileIfChanged 12 = .ok (.aload_n 1, 1) := by decide +kernel
theorem dX11_compileIfChanged_13 : decode cX11_compileIfChanged 13 = .ok (.getfield 282, 3) := by decide +kernel
theorem dX11_compileIfChanged_16 : decode cX11_compileIfChanged 16 = .ok (.ifCond .le 19, 3) := by decide +kernel
theorem dX11_compileIfChanged_19 : decode cX11_compileIfChanged 19 = .ok (.aload_n 0, 1) := by decide +kernel
theorem dX11_compileIfChanged_20 : decode cX11_compileIfChanged 20 = .ok (.getfield 28, 3) := by decide +kernel
theorem dX11_compileIfChanged_23 : decode cX11_compileIfChanged 23 = .ok (.aload_n 1, 1) := by decide +kernel
theorem dX11_compileIfChanged_24 : decode cX11_compileIfChanged 24 = .ok (.getfield 303, 3) := by decide +kernel
theorem dX11_compileIfChanged_27 : decode cX11_compileIfChanged 27 = .ok (.invokevirtual 295, 3) := by decide +kernel
theorem dX11_compileIfChanged_30 : decode cX11_compileIfChanged 30 = .ok (.ifCond .eq 5, 3) := by decide +kernel
theorem dX11_compileIfChanged_33 : decode cX11_compileIfChanged 33 = .ok (.iconst 0, 1) := by decide +kernel
theorem dX11_compileIfChanged_34 : decode cX11_compileIfChanged 34 = .ok (.ireturn, 1) := by decide +kernel
theorem dX11_compileIfChanged_35 : decode cX11_compileIfChanged 35 = .ok (.aload_n 1, 1) := by decide +kernel
theorem dX11_compileIfChanged_36 : decode cX11_compileIfChanged 36 = .ok (.getfield 303, 3) := by decide +kernel
theorem dX11_compileIfChanged_39 : decode cX11_compileIfChanged 39 = .ok (.aload_n 0, 1) := by decide +kernel
theorem dX11_compileIfChanged_40 : decode cX11_compileIfChanged 40 = .ok (.getfield 28, 3) := by decide +kernel
theorem dX11_compileIfChanged_43 : decode cX11_compileIfChanged 43 = .ok (.invokevirtual 306, 3) := by decide +kernel
theorem dX11_compileIfChanged_46 : decode cX11_compileIfChanged 46 = .ok (.aload_n 0, 1) := by decide +kernel
theorem dX11_compileIfChanged_47 : decode cX11_compileIfChanged 47 = .ok (.getfield 28, 3) := by decide +kernel
theorem dX11_compileIfChanged_50 : decode cX11_compileIfChanged 50 = .ok (.invokevirtual 285, 3) := by decide +kernel
theorem dX11_compileIfChanged_53 : decode cX11_compileIfChanged 53 = .ok (.aload_n 0, 1) := by decide +kernel
theorem dX11_compileIfChanged_54 : decode cX11_compileIfChanged 54 = .ok (.getfield 28, 3) := by decide +kernel
theorem dX11_compileIfChanged_57 : decode cX11_compileIfChanged 57 = .ok (.aload_n 1, 1) := by decide +kernel
theorem dX11_compileIfChanged_58 : decode cX11_compileIfChanged 58 = .ok (.getfield 310, 3) := by decide +kernel
theorem dX11_compileIfChanged_61 : decode cX11_compileIfChanged 61 = .ok (.iconst (-1), 1) := by decide +kernel
theorem dX11_compileIfChanged_62 : decode cX11_compileIfChanged 62 = .ok (.invokevirtual 288, 3) := by decide +kernel
theorem dX11_compileIfChanged_65 : decode cX11_compileIfChanged 65 = .ok (.aload_n 1, 1) := by decide +kernel
theorem dX11_compileIfChanged_66 : decode cX11_compileIfChanged 66 = .ok (.getfield 292, 3) := by decide +kernel
theorem dX11_compileIfChanged_69 : decode cX11_compileIfChanged 69 = .ok (.aload_n 0, 1) := by decide +kernel
theorem dX11_compileIfChanged_70 : decode cX11_compileIfChanged 70 = .ok (.getfield 28, 3) := by decide +kernel
theorem dX11_compileIfChanged_73 : decode cX11_compileIfChanged 73 = .ok (.invokevirtual 306, 3) := by decide +kernel
theorem dX11_compileIfChanged_76 : decode cX11_compileIfChanged 76 = .ok (.aload_n 1, 1) := by decide +kernel
theorem dX11_compileIfChanged_77 : decode cX11_compileIfChanged 77 = .ok (.dup, 1) := by decide +kernel
theorem dX11_compileIfChanged_78 : decode cX11_compileIfChanged 78 = .ok (.getfield 282, 3) := by decide +kernel
theorem dX11_compileIfChanged_81 : decode cX11_compileIfChanged 81 = .ok (.iconst 1, 1) := by decide +kernel
theorem dX11_compileIfChanged_82 : decode cX11_compileIfChanged 82 = .ok (.iadd, 1) := by decide +kernel
theorem dX11_compileIfChanged_83 : decode cX11_compileIfChanged 83 = .ok (.putfield 282, 3) := by decide +kernel
theorem dX11_compileIfChanged_86 : decode cX11_compileIfChanged 86 = .ok (.iconst 1, 1) := by decide +kernel
theorem dX11_compileIfChanged_87 : decode cX11_compileIfChanged 87 = .ok (.ireturn, 1) := by decide +kernel
theorem dX11_see_0 : decode cX11_see 0 = .ok (.aload_n 1, 1) := by decide +kernel
theorem dX11_see_1 : decode cX11_see 1 = .ok (.getfield 314, 3) := by decide +kernel
theorem dX11_see_4 : decode cX11_see 4 = .ok (.bipush 6, 2) := by decide +kernel
theorem dX11_see_6 : decode cX11_see 6 = .ok (.if_icmp .ne 40, 3) := by decide +kernel
theorem dX11_see_9 : decode cX11_see 9 = .ok (.aload_n 0, 1) := by decide +kernel
theorem dX11_see_10 : decode cX11_see 10 = .ok (.getfield 28, 3) := by decide +kernel
theorem dX11_see_13 : decode cX11_see 13 = .ok (.aload_n 0, 1) := by decide +kernel
theorem dX11_see_14 : decode cX11_see 14 = .ok (.getfield 12, 3) := by decide +kernel
theorem dX11_see_17 : decode cX11_see 17 = .ok (.aload_n 1, 1) := by decide +kernel
theorem dX11_see_18 : decode cX11_see 18 = .ok (.invokevirtual 317, 3) := by decide +kernel
theorem dX11_see_21 : decode cX11_see 21 = .ok (.invokevirtual 320, 3) := by decide +kernel
theorem dX11_see_24 : decode cX11_see 24 = .ok (.aload_n 0, 1) := by decide +kernel
theorem dX11_see_25 : decode cX11_see 25 = .ok (.getfield 12, 3) := by decide +kernel
theorem dX11_see_28 : decode cX11_see 28 = .ok (.aload_n 0, 1) := by decide +kernel
theorem dX11_see_29 : decode cX11_see 29 = .ok (.getfield 28, 3) := by decide +kernel
theorem dX11_see_32 : decode cX11_see 32 = .ok (.aload_n 0, 1) := by decide +kernel
theorem dX11_see_33 : decode cX11_see 33 = .ok (.getfield 12, 3) := by decide +kernel
theorem dX11_see_36 : decode cX11_see 36 = .ok (.aload_n 1, 1) := by decide +kernel
theorem dX11_see_37 : decode cX11_see 37 = .ok (.invokevirtual 323, 3) := by decide +kernel
theorem dX11_see_40 : decode cX11_see 40 = .ok (.invokevirtual 327, 3) := by decide +kernel
theorem dX11_see_43 : decode cX11_see 43 = .ok (.goto 164, 3) := by decide +kernel
theorem dX11_see_46 : decode cX11_see 46 = .ok (.aload_n 1, 1) := by decide +kernel
theorem dX11_see_47 : decode cX11_see 47 = .ok (.getfield 314, 3) := by decide +kernel
theorem dX11_see_50 : decode cX11_see 50 = .ok (.iconst 1, 1) := by decide +kernel
theorem dX11_see_51 : decode cX11_see 51 = .ok (.if_icmp .eq 11, 3) := by decide +kernel
theorem dX11_see_54 : decode cX11_see 54 = .ok (.aload_n 1, 1) := by decide +kernel
theorem dX11_see_55 : decode cX11_see 55 = .ok (.getfield 314, 3) := by decide +kernel
theorem dX11_see_58 : decode cX11_see 58 = .ok (.iconst 2, 1) := by decide +kernel
theorem dX11_see_59 : decode cX11_see 59 = .ok (.if_icmp .ne 114, 3) := by decide +kernel
theorem dX11_see_62 : decode cX11_see 62 = .ok (.aload_n 1, 1) := by decide +kernel
theorem dX11_see_63 : decode cX11_see 63 = .ok (.getfield 331, 3) := by decide +kernel
theorem dX11_see_66 : decode cX11_see 66 = .ok (.aload_n 1, 1) := by decide +kernel
theorem dX11_see_67 : decode cX11_see 67 = .ok (.getfield 314, 3) := by decide +kernel
theorem dX11_see_70 : decode cX11_see 70 = .ok (.iconst 1, 1) := by decide +kernel
theorem dX11_see_71 : decode cX11_see 71 = .ok (.if_icmp .ne 7, 3) := by decide +kernel
theorem dX11_see_74 : decode cX11_see 74 = .ok (.iconst 1, 1) := by decide +kernel
theorem dX11_see_75 : decode cX11_see 75 = .ok (.goto 4, 3) := by decide +kernel
theorem dX11_see_78 : decode cX11_see 78 = .ok (.iconst 0, 1) := by decide +kernel
theorem dX11_see_79 : decode cX11_see 79 = .ok (.aaload, 1) := by decide +kernel
theorem dX11_see_80 : decode cX11_see 80 = .ok (.getfield 310, 3) := by decide +kernel
theorem dX11_see_83 : decode cX11_see 83 = .ok (.astore_n 2, 1) := by decide +kernel
theorem dX11_see_84 : decode cX11_see 84 = .ok (.aload_n 1, 1) := by decide +kernel
theorem dX11_see_85 : decode cX11_see 85 = .ok (.getfield 331, 3) := by decide +kernel
theorem dX11_see_88 : decode cX11_see 88 = .ok (.aload_n 1, 1) := by decide +kernel
theorem dX11_see_89 : decode cX11_see 89 = .ok (.getfield 314, 3) := by decide +kernel
theorem dX11_see_92 : decode cX11_see 92 = .ok (.iconst 1, 1) := by decide +kernel
theorem dX11_see_93 : decode cX11_see 93 = .ok (.if_icmp .ne 7, 3) := by decide +kernel
theorem dX11_see_96 : decode cX11_see 96 = .ok (.iconst 0, 1) := by decide +kernel
theorem dX11_see_97 : decode cX11_see 97 = .ok (.goto 4, 3) := by decide +kernel
theorem dX11_see_100 : decode cX11_see 100 = .ok (.iconst 1, 1) := by decide +kernel
theorem dX11_see_101 : decode cX11_see 101 = .ok (.aaload, 1) := by decide +kernel
theorem dX11_see_102 : decode cX11_see 102 = .ok (.getfield 310, 3) := by decide +kernel
theorem dX11_see_105 : decode cX11_see 105 = .ok (.astore_n 3, 1) := by decide +kernel
theorem dX11_see_106 : decode cX11_see 106 = .ok (.aload_n 0, 1) := by decide +kernel
theorem dX11_see_107 : decode cX11_see 107 = .ok (.getfield 28, 3) := by decide +kernel
theorem dX11_see_110 : decode cX11_see 110 = .ok (.aload_n 1, 1) := by decide +kernel
theorem dX11_see_111 : decode cX11_see 111 = .ok (.getfield 331, 3) := by decide +kernel
theorem dX11_see_114 : decode cX11_see 114 = .ok (.iconst 0, 1) := by decide +kernel
theorem dX11_see_115 : decode cX11_see 115 = .ok (.aaload, 1) := by decide +kernel
theorem dX11_see_116 : decode cX11_see 116 = .ok (.getfield 335, 3) := by decide +kernel
theorem dX11_see_119 : decode cX11_see 119 = .ok (.invokevirtual 320, 3) := by decide +kernel
theorem dX11_see_122 : decode cX11_see 122 = .ok (.aload_n 0, 1) := by decide +kernel
theorem dX11_see_123 : decode cX11_see 123 = .ok (.getfield 28, 3) := by decide +kernel
theorem dX11_see_126 : decode cX11_see 126 = .ok (.aload_n 1, 1) := by decide +kernel
theorem dX11_see_127 : decode cX11_see 127 = .ok (.getfield 331, 3) := by decide +kernel
theorem dX11_see_130 : decode cX11_see 130 = .ok (.iconst 1, 1) := by decide +kernel
theorem dX11_see_131 : decode cX11_see 131 = .ok (.aaload, 1) := by decide +kernel
theorem dX11_see_132 : decode cX11_see 132 = .ok (.getfield 335, 3) := by decide +kernel
theorem dX11_see_135 : decode cX11_see 135 = .ok (.invokevirtual 320, 3) := by decide +kernel
theorem dX11_see_138 : decode cX11_see 138 = .ok (.aload_n 0, 1) := by decide +kernel
theorem dX11_see_139 : decode cX11_see 139 = .ok (.getfield 28, 3) := by decide +kernel
theorem dX11_see_142 : decode cX11_see 142 = .ok (.aload_n 2, 1) := by decide +kernel
theorem dX11_see_143 : decode cX11_see 143 = .ok (.iconst (-1), 1) := by decide +kernel
theorem dX11_see_144 : decode cX11_see 144 = .ok (.invokevirtual 288, 3) := by decide +kernel
theorem dX11_see_147 : decode cX11_see 147 = .ok (.aload_n 0, 1) := by decide +kernel
theorem dX11_see_148 : decode cX11_see 148 = .ok (.getfield 28, 3) := by decide +kernel
theorem dX11_see_151 : decode cX11_see 151 = .ok (.aload_n 3, 1) := by decide +kernel
theorem dX11_see_152 : decode cX11_see 152 = .ok (.aload_n 2, 1) := by decide +kernel
theorem dX11_see_153 : decode cX11_see 153 = .ok (.getfield 191, 3) := by decide +kernel
theorem dX11_see_156 : decode cX11_see 156 = .ok (.ifCond .ne 10, 3) := by decide +kernel
theorem dX11_see_159 : decode cX11_see 159 = .ok (.aload_n 2, 1) := by decide +kernel
theorem dX11_see_160 : decode cX11_see 160 = .ok (.invokevirtual 338, 3) := by decide +kernel
theorem dX11_see_163 : decode cX11_see 163 = .ok (.goto 4, 3) := by decide +kernel
theorem dX11_see_166 : decode cX11_see 166 = .ok (.iconst 0, 1) := by decide +kernel
theorem dX11_see_167 : decode cX11_see 167 = .ok (.invokevirtual 288, 3) := by decide +kernel
theorem dX11_see_170 : decode cX11_see 170 = .ok (.goto 37, 3) := by decide +kernel
theorem dX11_see_173 : decode cX11_see 173 = .ok (.iconst 0, 1) := by decide +kernel
theorem dX11_see_174 : decode cX11_see 174 = .ok (.istore_n 2, 1) := by decide +kernel
theorem dX11_see_175 : decode cX11_see 175 = .ok (.iload_n 2, 1) := by decide +kernel
theorem dX11_see_176 : decode cX11_see 176 = .ok (.aload_n 1, 1) := by decide +kernel
theorem dX11_see_177 : decode cX11_see 177 = .ok (.getfield 331, 3) := by decide +kernel
theorem dX11_see_180 : decode cX11_see 180 = .ok (.arraylength, 1) := by decide +kernel
theorem dX11_see_181 : decode cX11_see 181 = .ok (.if_icmp .ge 26, 3) := by decide +kernel
theorem dX11_see_184 : decode cX11_see 184 = .ok (.aload_n 0, 1) := by decide +kernel
theorem dX11_see_185 : decode cX11_see 185 = .ok (.getfield 28, 3) := by decide +kernel
theorem dX11_see_188 : decode cX11_see 188 = .ok (.aload_n 1, 1) := by decide +kernel
theorem dX11_see_189 : decode cX11_see 189 = .ok (.getfield 331, 3) := by decide +kernel
theorem dX11_see_192 : decode cX11_see 192 = .ok (.iload_n 2, 1) := by decide +kernel
theorem dX11_see_193 : decode cX11_see 193 = .ok (.aaload, 1) := by decide +kernel
theorem dX11_see_194 : decode cX11_see 194 = .ok (.getfield 310, 3) := by decide +kernel
theorem dX11_see_197 : decode cX11_see 197 = .ok (.iconst (-1), 1) := by decide +kernel
theorem dX11_see_198 : decode cX11_see 198 = .ok (.invokevirtual 288, 3) := by decide +kernel
theorem dX11_see_201 : decode cX11_see 201 = .ok (.iinc 2 1, 3) := by decide +kernel
theorem dX11_see_204 : decode cX11_see 204 = .ok (.goto (-29), 3) := by decide +kernel
theorem dX11_see_207 : decode cX11_see 207 = .ok (.return_, 1) := by decide +kernel
theorem dX11_needType_0 : decode cX11_needType 0 = .ok (.iload_n 1, 1) := by decide +kernel
theorem dX11_needType_1 : decode cX11_needType 1 = .ok (.ifCond .lt 14, 3) := by decide +kernel
theorem dX11_needType_4 : decode cX11_needType 4 = .ok (.iload_n 1, 1) := by decide +kernel
theorem dX11_needType_5 : decode cX11_needType 5 = .ok (.aload_n 0, 1) := by decide +kernel
theorem dX11_needType_6 : decode cX11_needType 6 = .ok (.getfield 12, 3) := by decide +kernel
theorem dX11_needType_9 : decode cX11_needType 9 = .ok (.getfield 59, 3) := by decide +kernel
theorem dX11_needType_12 : decode cX11_needType 12 = .ok (.if_icmp .lt 14, 3) := by decide +kernel
theorem dX11_needType_15 : decode cX11_needType 15 = .ok (.new 162, 3) := by decide +kernel
theorem dX11_needType_18 : decode cX11_needType 18 = .ok (.dup, 1) := by decide +kernel
theorem dX11_needType_19 : decode cX11_needType 19 = .ok (.ldc_w 341, 3) := by decide +kernel
theorem dX11_needType_22 : decode cX11_needType 22 = .ok (.invokespecial 166, 3) := by decide +kernel
theorem dX11_needType_25 : decode cX11_needType 25 = .ok (.athrow, 1) := by decide +kernel
theorem dX11_needType_26 : decode cX11_needType 26 = .ok (.return_, 1) := by decide +kernel
theorem dX11_needExpression_0 : decode cX11_needExpression 0 = .ok (.iload_n 1, 1) := by decide +kernel
theorem dX11_needExpression_1 : decode cX11_needExpression 1 = .ok (.ifCond .lt 14, 3) := by decide +kernel
theorem dX11_needExpression_4 : decode cX11_needExpression 4 = .ok (.iload_n 1, 1) := by decide +kernel
theorem dX11_needExpression_5 : decode cX11_needExpression 5 = .ok (.aload_n 0, 1) := by decide +kernel
theorem dX11_needExpression_6 : decode cX11_needExpression 6 = .ok (.getfield 12, 3) := by decide +kernel
theorem dX11_needExpression_9 : decode cX11_needExpression 9 = .ok (.getfield 87, 3) := by decide +kernel
theorem dX11_needExpression_12 : decode cX11_needExpression 12 = .ok (.if_icmp .lt 14, 3) := by decide +kernel
theorem dX11_needExpression_15 : decode cX11_needExpression 15 = .ok (.new 162, 3) := by decide +kernel
theorem dX11_needExpression_18 : decode cX11_needExpression 18 = .ok (.dup, 1) := by decide +kernel
theorem dX11_needExpression_19 : decode cX11_needExpression 19 = .ok (.ldc_w 343, 3) := by decide +kernel
theorem dX11_needExpression_22 : decode cX11_needExpression 22 = .ok (.invokespecial 166, 3) := by decide +kernel
theorem dX11_needExpression_25 : decode cX11_needExpression 25 = .ok (.athrow, 1) := by decide +kernel
theorem dX11_needExpression_26 : decode cX11_needExpression 26 = .ok (.return_, 1) := by decide +kernel
theorem dX11_needUnit_0 : decode cX11_needUnit 0 = .ok (.iload_n 1, 1) := by decide +kernel
theorem dX11_needUnit_1 : decode cX11_needUnit 1 = .ok (.ifCond .lt 14, 3) := by decide +kernel
theorem dX11_needUnit_4 : decode cX11_needUnit 4 = .ok (.iload_n 1, 1) := by decide +kernel
theorem dX11_needUnit_5 : decode cX11_needUnit 5 = .ok (.aload_n 0, 1) := by decide +kernel
theorem dX11_needUnit_6 : decode cX11_needUnit 6 = .ok (.getfield 12, 3) := by decide +kernel
theorem dX11_needUnit_9 : decode cX11_needUnit 9 = .ok (.getfield 110, 3) := by decide +kernel
theorem dX11_needUnit_12 : decode cX11_needUnit 12 = .ok (.if_icmp .lt 14, 3) := by decide +kernel
theorem dX11_needUnit_15 : decode cX11_needUnit 15 = .ok (.new 162, 3) := by decide +kernel
theorem dX11_needUnit_18 : decode cX11_needUnit 18 = .ok (.dup, 1) := by decide +kernel
theorem dX11_needUnit_19 : decode cX11_needUnit 19 = .ok (.ldc_w 345, 3) := by decide +kernel
theorem dX11_needUnit_22 : decode cX11_needUnit 22 = .ok (.invokespecial 166, 3) := by decide +kernel
theorem dX11_needUnit_25 : decode cX11_needUnit 25 = .ok (.athrow, 1) := by decide +kernel
theorem dX11_needUnit_26 : decode cX11_needUnit 26 = .ok (.return_, 1) := by decide +kernel
theorem dX11_neededNode_0 : decode cX11_neededNode 0 = .ok (.iload_n 1, 1) := by decide +kernel
theorem dX11_neededNode_1 : decode cX11_neededNode 1 = .ok (.ifCond .lt 17, 3) := by decide +kernel
theorem dX11_neededNode_4 : decode cX11_neededNode 4 = .ok (.iload_n 1, 1) := by decide +kernel
theorem dX11_neededNode_5 : decode cX11_neededNode 5 = .ok (.aload_n 0, 1) := by decide +kernel
theorem dX11_neededNode_6 : decode cX11_neededNode 6 = .ok (.getfield 12, 3) := by decide +kernel
theorem dX11_neededNode_9 : decode cX11_neededNode 9 = .ok (.getfield 262, 3) := by decide +kernel
theorem dX11_neededNode_12 : decode cX11_neededNode 12 = .ok (.invokevirtual 266, 3) := by decide +kernel
theorem dX11_neededNode_15 : decode cX11_neededNode 15 = .ok (.if_icmp .lt 14, 3) := by decide +kernel
theorem dX11_neededNode_18 : decode cX11_neededNode 18 = .ok (.new 162, 3) := by decide +kernel
theorem dX11_neededNode_21 : decode cX11_neededNode 21 = .ok (.dup, 1) := by decide +kernel
theorem dX11_neededNode_22 : decode cX11_neededNode 22 = .ok (.ldc_w 347, 3) := by decide +kernel
theorem dX11_neededNode_25 : decode cX11_neededNode 25 = .ok (.invokespecial 166, 3) := by decide +kernel
theorem dX11_neededNode_28 : decode cX11_neededNode 28 = .ok (.athrow, 1) := by decide +kernel
theorem dX11_neededNode_29 : decode cX11_neededNode 29 = .ok (.aload_n 0, 1) := by decide +kernel
theorem dX11_neededNode_30 : decode cX11_neededNode 30 = .ok (.getfield 12, 3) := by decide +kernel
theorem dX11_neededNode_33 : decode cX11_neededNode 33 = .ok (.getfield 262, 3) := by decide +kernel
theorem dX11_neededNode_36 : decode cX11_neededNode 36 = .ok (.iload_n 1, 1) := by decide +kernel
theorem dX11_neededNode_37 : decode cX11_neededNode 37 = .ok (.invokevirtual 271, 3) := by decide +kernel
theorem dX11_neededNode_40 : decode cX11_neededNode 40 = .ok (.checkcast 170, 3) := by decide +kernel
theorem dX11_neededNode_43 : decode cX11_neededNode 43 = .ok (.areturn, 1) := by decide +kernel
theorem dX11_needRoomForNode_0 : decode cX11_needRoomForNode 0 = .ok (.aload_n 0, 1) := by decide +kernel
theorem dX11_needRoomForNode_1 : decode cX11_needRoomForNode 1 = .ok (.getfield 12, 3) := by decide +kernel
theorem dX11_needRoomForNode_4 : decode cX11_needRoomForNode 4 = .ok (.getfield 262, 3) := by decide +kernel
theorem dX11_needRoomForNode_7 : decode cX11_needRoomForNode 7 = .ok (.invokevirtual 266, 3) := by decide +kernel
theorem dX11_needRoomForNode_10 : decode cX11_needRoomForNode 10 = .ok (.bipush 40, 2) := by decide +kernel
theorem dX11_needRoomForNode_12 : decode cX11_needRoomForNode 12 = .ok (.if_icmp .lt 14, 3) := by decide +kernel
theorem dX11_needRoomForNode_15 : decode cX11_needRoomForNode 15 = .ok (.new 63, 3) := by decide +kernel
theorem dX11_needRoomForNode_18 : decode cX11_needRoomForNode 18 = .ok (.dup, 1) := by decide +kernel
theorem dX11_needRoomForNode_19 : decode cX11_needRoomForNode 19 = .ok (.ldc_w 349, 3) := by decide +kernel
theorem dX11_needRoomForNode_22 : decode cX11_needRoomForNode 22 = .ok (.invokespecial 67, 3) := by decide +kernel
theorem dX11_needRoomForNode_25 : decode cX11_needRoomForNode 25 = .ok (.athrow, 1) := by decide +kernel
theorem dX11_needRoomForNode_26 : decode cX11_needRoomForNode 26 = .ok (.iload_n 1, 1) := by decide +kernel
theorem dX11_needRoomForNode_27 : decode cX11_needRoomForNode 27 = .ok (.bipush 24, 2) := by decide +kernel
theorem dX11_needRoomForNode_29 : decode cX11_needRoomForNode 29 = .ok (.if_icmp .le 14, 3) := by decide +kernel
theorem dX11_needRoomForNode_32 : decode cX11_needRoomForNode 32 = .ok (.new 63, 3) := by decide +kernel
theorem dX11_needRoomForNode_35 : decode cX11_needRoomForNode 35 = .ok (.dup, 1) := by decide +kernel
theorem dX11_needRoomForNode_36 : decode cX11_needRoomForNode 36 = .ok (.ldc_w 351, 3) := by decide +kernel
theorem dX11_needRoomForNode_39 : decode cX11_needRoomForNode 39 = .ok (.invokespecial 67, 3) := by decide +kernel
theorem dX11_needRoomForNode_42 : decode cX11_needRoomForNode 42 = .ok (.athrow, 1) := by decide +kernel
theorem dX11_needRoomForNode_43 : decode cX11_needRoomForNode 43 = .ok (.return_, 1) := by decide +kernel
theorem dX11_needTypeName_0 : decode cX11_needTypeName 0 = .ok (.iload_n 1, 1) := by decide +kernel
theorem dX11_needTypeName_1 : decode cX11_needTypeName 1 = .ok (.invokestatic 49, 3) := by decide +kernel
theorem dX11_needTypeName_4 : decode cX11_needTypeName 4 = .ok (.ifCond .ne 13, 3) := by decide +kernel
theorem dX11_needTypeName_7 : decode cX11_needTypeName 7 = .ok (.new 42, 3) := by decide +kernel
theorem dX11_needTypeName_10 : decode cX11_needTypeName 10 = .ok (.dup, 1) := by decide +kernel
theorem dX11_needTypeName_11 : decode cX11_needTypeName 11 = .ok (.ldc 53, 2) := by decide +kernel
theorem dX11_needTypeName_13 : decode cX11_needTypeName 13 = .ok (.invokespecial 46, 3) := by decide +kernel
theorem dX11_needTypeName_16 : decode cX11_needTypeName 16 = .ok (.athrow, 1) := by decide +kernel
theorem dX11_needTypeName_17 : decode cX11_needTypeName 17 = .ok (.return_, 1) := by decide +kernel
theorem dX11_needValueName_0 : decode cX11_needValueName 0 = .ok (.iload_n 1, 1) := by decide +kernel
theorem dX11_needValueName_1 : decode cX11_needValueName 1 = .ok (.invokestatic 82, 3) := by decide +kernel
theorem dX11_needValueName_4 : decode cX11_needValueName 4 = .ok (.ifCond .ne 13, 3) := by decide +kernel
theorem dX11_needValueName_7 : decode cX11_needValueName 7 = .ok (.new 42, 3) := by decide +kernel
theorem dX11_needValueName_10 : decode cX11_needValueName 10 = .ok (.dup, 1) := by decide +kernel
theorem dX11_needValueName_11 : decode cX11_needValueName 11 = .ok (.ldc 85, 2) := by decide +kernel
theorem dX11_needValueName_13 : decode cX11_needValueName 13 = .ok (.invokespecial 46, 3) := by decide +kernel
theorem dX11_needValueName_16 : decode cX11_needValueName 16 = .ok (.athrow, 1) := by decide +kernel
theorem dX11_needValueName_17 : decode cX11_needValueName 17 = .ok (.return_, 1) := by decide +kernel
theorem dX11_needNoMistake_0 : decode cX11_needNoMistake 0 = .ok (.aload_n 0, 1) := by decide +kernel
theorem dX11_needNoMistake_1 : decode cX11_needNoMistake 1 = .ok (.getfield 191, 3) := by decide +kernel
theorem dX11_needNoMistake_4 : decode cX11_needNoMistake 4 = .ok (.ifCond .eq 14, 3) := by decide +kernel
theorem dX11_needNoMistake_7 : decode cX11_needNoMistake 7 = .ok (.new 63, 3) := by decide +kernel
theorem dX11_needNoMistake_10 : decode cX11_needNoMistake 10 = .ok (.dup, 1) := by decide +kernel
theorem dX11_needNoMistake_11 : decode cX11_needNoMistake 11 = .ok (.ldc_w 353, 3) := by decide +kernel
theorem dX11_needNoMistake_14 : decode cX11_needNoMistake 14 = .ok (.invokespecial 67, 3) := by decide +kernel
theorem dX11_needNoMistake_17 : decode cX11_needNoMistake 17 = .ok (.athrow, 1) := by decide +kernel
theorem dX11_needNoMistake_18 : decode cX11_needNoMistake 18 = .ok (.return_, 1) := by decide +kernel
theorem dX11_isTypeName_0 : decode cX11_isTypeName 0 = .ok (.iload_n 0, 1) := by decide +kernel
theorem dX11_isTypeName_1 : decode cX11_isTypeName 1 = .ok (.ifCond .lt 13, 3) := by decide +kernel
theorem dX11_isTypeName_4 : decode cX11_isTypeName 4 = .ok (.iload_n 0, 1) := by decide +kernel
theorem dX11_isTypeName_5 : decode cX11_isTypeName 5 = .ok (.bipush 6, 2) := by decide +kernel
theorem dX11_isTypeName_7 : decode cX11_isTypeName 7 = .ok (.if_icmp .ge 7, 3) := by decide +kernel
theorem dX11_isTypeName_10 : decode cX11_isTypeName 10 = .ok (.iconst 1, 1) := by decide +kernel
theorem dX11_isTypeName_11 : decode cX11_isTypeName 11 = .ok (.goto 4, 3) := by decide +kernel
theorem dX11_isTypeName_14 : decode cX11_isTypeName 14 = .ok (.iconst 0, 1) := by decide +kernel
theorem dX11_isTypeName_15 : decode cX11_isTypeName 15 = .ok (.ireturn, 1) := by decide +kernel
theorem dX11_isValueName_0 : decode cX11_isValueName 0 = .ok (.iload_n 0, 1) := by decide +kernel
theorem dX11_isValueName_1 : decode cX11_isValueName 1 = .ok (.ifCond .lt 13, 3) := by decide +kernel
theorem dX11_isValueName_4 : decode cX11_isValueName 4 = .ok (.iload_n 0, 1) := by decide +kernel
theorem dX11_isValueName_5 : decode cX11_isValueName 5 = .ok (.bipush 10, 2) := by decide +kernel
theorem dX11_isValueName_7 : decode cX11_isValueName 7 = .ok (.if_icmp .ge 7, 3) := by decide +kernel
theorem dX11_isValueName_10 : decode cX11_isValueName 10 = .ok (.iconst 1, 1) := by decide +kernel
theorem dX11_isValueName_11 : decode cX11_isValueName 11 = .ok (.goto 4, 3) := by decide +kernel
theorem dX11_isValueName_14 : decode cX11_isValueName 14 = .ok (.iconst 0, 1) := by decide +kernel
theorem dX11_isValueName_15 : decode cX11_isValueName 15 = .ok (.ireturn, 1) := by decide +kernel
theorem dX11_isIn_0 : decode cX11_isIn 0 = .ok (.iload_n 0, 1) := by decide +kernel
theorem dX11_isIn_1 : decode cX11_isIn 1 = .ok (.iload_n 1, 1) := by decide +kernel
theorem dX11_isIn_2 : decode cX11_isIn 2 = .ok (.ishr, 1) := by decide +kernel
theorem dX11_isIn_3 : decode cX11_isIn 3 = .ok (.iconst 1, 1) := by decide +kernel
theorem dX11_isIn_4 : decode cX11_isIn 4 = .ok (.iand, 1) := by decide +kernel
theorem dX11_isIn_5 : decode cX11_isIn 5 = .ok (.ifCond .eq 7, 3) := by decide +kernel
theorem dX11_isIn_8 : decode cX11_isIn 8 = .ok (.iconst 1, 1) := by decide +kernel
theorem dX11_isIn_9 : decode cX11_isIn 9 = .ok (.goto 4, 3) := by decide +kernel
theorem dX11_isIn_12 : decode cX11_isIn 12 = .ok (.iconst 0, 1) := by decide +kernel
theorem dX11_isIn_13 : decode cX11_isIn 13 = .ok (.ireturn, 1) := by decide +kernel
theorem dX11_typeMistake_0 : decode cX11_typeMistake 0 = .ok (.bipush 100, 2) := by decide +kernel
theorem dX11_typeMistake_2 : decode cX11_typeMistake 2 = .ok (.iload_n 0, 1) := by decide +kernel
theorem dX11_typeMistake_3 : decode cX11_typeMistake 3 = .ok (.imul, 1) := by decide +kernel
theorem dX11_typeMistake_4 : decode cX11_typeMistake 4 = .ok (.bipush 50, 2) := by decide +kernel
theorem dX11_typeMistake_6 : decode cX11_typeMistake 6 = .ok (.iadd, 1) := by decide +kernel
theorem dX11_typeMistake_7 : decode cX11_typeMistake 7 = .ok (.iload_n 1, 1) := by decide +kernel
theorem dX11_typeMistake_8 : decode cX11_typeMistake 8 = .ok (.iadd, 1) := by decide +kernel
theorem dX11_typeMistake_9 : decode cX11_typeMistake 9 = .ok (.ireturn, 1) := by decide +kernel
theorem dX11_valueMistake_0 : decode cX11_valueMistake 0 = .ok (.bipush 100, 2) := by decide +kernel
theorem dX11_valueMistake_2 : decode cX11_valueMistake 2 = .ok (.iload_n 0, 1) := by decide +kernel
theorem dX11_valueMistake_3 : decode cX11_valueMistake 3 = .ok (.imul, 1) := by decide +kernel
theorem dX11_valueMistake_4 : decode cX11_valueMistake 4 = .ok (.iload_n 1, 1) := by decide +kernel
theorem dX11_valueMistake_5 : decode cX11_valueMistake 5 = .ok (.iadd, 1) := by decide +kernel
theorem dX11_valueMistake_6 : decode cX11_valueMistake 6 = .ok (.ireturn, 1) := by decide +kernel
theorem dX11_isSameRow_0 : decode cX11_isSameRow 0 = .ok (.iload_n 1, 1) := by decide +kernel
theorem dX11_isSameRow_1 : decode cX11_isSameRow 1 = .ok (.iload_n 3, 1) := by decide +kernel
theorem dX11_isSameRow_2 : decode cX11_isSameRow 2 = .ok (.if_icmp .ne 18, 3) := by decide +kernel
theorem dX11_isSameRow_5 : decode cX11_isSameRow 5 = .ok (.aload_n 0, 1) := by decide +kernel
theorem dX11_isSameRow_6 : decode cX11_isSameRow 6 = .ok (.iconst 0, 1) := by decide +kernel
theorem dX11_isSameRow_7 : decode cX11_isSameRow 7 = .ok (.iload_n 1, 1) := by decide +kernel
theorem dX11_isSameRow_8 : decode cX11_isSameRow 8 = .ok (.aload_n 2, 1) := by decide +kernel
theorem dX11_isSameRow_9 : decode cX11_isSameRow 9 = .ok (.iload_n 1, 1) := by decide +kernel
theorem dX11_isSameRow_10 : decode cX11_isSameRow 10 = .ok (.invokestatic 355, 3) := by decide +kernel
theorem dX11_isSameRow_13 : decode cX11_isSameRow 13 = .ok (.ifCond .eq 7, 3) := by decide +kernel
theorem dX11_isSameRow_16 : decode cX11_isSameRow 16 = .ok (.iconst 1, 1) := by decide +kernel
theorem dX11_isSameRow_17 : decode cX11_isSameRow 17 = .ok (.goto 4, 3) := by decide +kernel
theorem dX11_isSameRow_20 : decode cX11_isSameRow 20 = .ok (.iconst 0, 1) := by decide +kernel
theorem dX11_isSameRow_21 : decode cX11_isSameRow 21 = .ok (.ireturn, 1) := by decide +kernel
theorem dX11_startsWith_0 : decode cX11_startsWith 0 = .ok (.iload_n 1, 1) := by decide +kernel
theorem dX11_startsWith_1 : decode cX11_startsWith 1 = .ok (.ifCond .lt 24, 3) := by decide +kernel
theorem dX11_startsWith_4 : decode cX11_startsWith 4 = .ok (.iload_n 2, 1) := by decide +kernel
theorem dX11_startsWith_5 : decode cX11_startsWith 5 = .ok (.aload_n 0, 1) := by decide +kernel
theorem dX11_startsWith_6 : decode cX11_startsWith 6 = .ok (.arraylength, 1) := by decide +kernel
theorem dX11_startsWith_7 : decode cX11_startsWith 7 = .ok (.if_icmp .gt 18, 3) := by decide +kernel
theorem dX11_startsWith_10 : decode cX11_startsWith 10 = .ok (.iload 4, 2) := by decide +kernel
theorem dX11_startsWith_12 : decode cX11_startsWith 12 = .ok (.iload_n 2, 1) := by decide +kernel
theorem dX11_startsWith_13 : decode cX11_startsWith 13 = .ok (.iload_n 1, 1) := by decide +kernel
theorem dX11_startsWith_14 : decode cX11_startsWith 14 = .ok (.isub, 1) := by decide +kernel
theorem dX11_startsWith_15 : decode cX11_startsWith 15 = .ok (.if_icmp .gt 10, 3) := by decide +kernel
theorem dX11_startsWith_18 : decode cX11_startsWith 18 = .ok (.iload 4, 2) := by decide +kernel
theorem dX11_startsWith_20 : decode cX11_startsWith 20 = .ok (.aload_n 3, 1) := by decide +kernel
theorem dX11_startsWith_21 : decode cX11_startsWith 21 = .ok (.arraylength, 1) := by decide +kernel
theorem dX11_startsWith_22 : decode cX11_startsWith 22 = .ok (.if_icmp .le 5, 3) := by decide +kernel
theorem dX11_startsWith_25 : decode cX11_startsWith 25 = .ok (.iconst 0, 1) := by decide +kernel
theorem dX11_startsWith_26 : decode cX11_startsWith 26 = .ok (.ireturn, 1) := by decide +kernel
theorem dX11_startsWith_27 : decode cX11_startsWith 27 = .ok (.iconst 0, 1) := by decide +kernel
theorem dX11_startsWith_28 : decode cX11_startsWith 28 = .ok (.istore 5, 2) := by decide +kernel
theorem dX11_startsWith_30 : decode cX11_startsWith 30 = .ok (.iload 5, 2) := by decide +kernel
theorem dX11_startsWith_32 : decode cX11_startsWith 32 = .ok (.iload 4, 2) := by decide +kernel
theorem dX11_startsWith_34 : decode cX11_startsWith 34 = .ok (.if_icmp .ge 24, 3) := by decide +kernel
theorem dX11_startsWith_37 : decode cX11_startsWith 37 = .ok (.aload_n 0, 1) := by decide +kernel
theorem dX11_startsWith_38 : decode cX11_startsWith 38 = .ok (.iload_n 1, 1) := by decide +kernel
theorem dX11_startsWith_39 : decode cX11_startsWith 39 = .ok (.iload 5, 2) := by decide +kernel
theorem dX11_startsWith_41 : decode cX11_startsWith 41 = .ok (.iadd, 1) := by decide +kernel
theorem dX11_startsWith_42 : decode cX11_startsWith 42 = .ok (.iaload, 1) := by decide +kernel
theorem dX11_startsWith_43 : decode cX11_startsWith 43 = .ok (.aload_n 3, 1) := by decide +kernel
theorem dX11_startsWith_44 : decode cX11_startsWith 44 = .ok (.iload 5, 2) := by decide +kernel
theorem dX11_startsWith_46 : decode cX11_startsWith 46 = .ok (.iaload, 1) := by decide +kernel
theorem dX11_startsWith_47 : decode cX11_startsWith 47 = .ok (.if_icmp .eq 5, 3) := by decide +kernel
theorem dX11_startsWith_50 : decode cX11_startsWith 50 = .ok (.iconst 0, 1) := by decide +kernel
theorem dX11_startsWith_51 : decode cX11_startsWith 51 = .ok (.ireturn, 1) := by decide +kernel
theorem dX11_startsWith_52 : decode cX11_startsWith 52 = .ok (.iinc 5 1, 3) := by decide +kernel
theorem dX11_startsWith_55 : decode cX11_startsWith 55 = .ok (.goto (-25), 3) := by decide +kernel
theorem dX11_startsWith_58 : decode cX11_startsWith 58 = .ok (.iconst 1, 1) := by decide +kernel
theorem dX11_startsWith_59 : decode cX11_startsWith 59 = .ok (.ireturn, 1) := by decide +kernel
