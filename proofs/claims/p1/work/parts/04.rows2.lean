theorem dX11_typeOf_0 : decode cX11_typeOf 0 = .ok (.aload_n 0, 1) := by decide +kernel
theorem dX11_typeOf_1 : decode cX11_typeOf 1 = .ok (.iload_n 1, 1) := by decide +kernel
theorem dX11_typeOf_2 : decode cX11_typeOf 2 = .ok (.invokevirtual 178, 3) := by decide +kernel
theorem dX11_typeOf_5 : decode cX11_typeOf 5 = .ok (.astore_n 3, 1) := by decide +kernel
theorem dX11_typeOf_6 : decode cX11_typeOf 6 = .ok (.aload_n 0, 1) := by decide +kernel
theorem dX11_typeOf_7 : decode cX11_typeOf 7 = .ok (.iload_n 2, 1) := by decide +kernel
theorem dX11_typeOf_8 : decode cX11_typeOf 8 = .ok (.invokevirtual 130, 3) := by decide +kernel
theorem dX11_typeOf_11 : decode cX11_typeOf 11 = .ok (.aload_n 0, 1) := by decide +kernel
theorem dX11_typeOf_12 : decode cX11_typeOf 12 = .ok (.getfield 21, 3) := by decide +kernel
theorem dX11_typeOf_15 : decode cX11_typeOf 15 = .ok (.aload_n 3, 1) := by decide +kernel
theorem dX11_typeOf_16 : decode cX11_typeOf 16 = .ok (.invokevirtual 187, 3) := by decide +kernel
theorem dX11_typeOf_19 : decode cX11_typeOf 19 = .ok (.astore 4, 2) := by decide +kernel
theorem dX11_typeOf_21 : decode cX11_typeOf 21 = .ok (.aload 4, 2) := by decide +kernel
theorem dX11_typeOf_23 : decode cX11_typeOf 23 = .ok (.invokestatic 196, 3) := by decide +kernel
theorem dX11_typeOf_26 : decode cX11_typeOf 26 = .ok (.aload 4, 2) := by decide +kernel
theorem dX11_typeOf_28 : decode cX11_typeOf 28 = .ok (.iload_n 2, 1) := by decide +kernel
theorem dX11_typeOf_29 : decode cX11_typeOf 29 = .ok (.invokevirtual 200, 3) := by decide +kernel
theorem dX11_typeOf_32 : decode cX11_typeOf 32 = .ok (.ifCond .eq 7, 3) := by decide +kernel
theorem dX11_typeOf_35 : decode cX11_typeOf 35 = .ok (.iconst 3, 1) := by decide +kernel
theorem dX11_typeOf_36 : decode cX11_typeOf 36 = .ok (.goto 10, 3) := by decide +kernel
theorem dX11_typeOf_39 : decode cX11_typeOf 39 = .ok (.aload 4, 2) := by decide +kernel
theorem dX11_typeOf_41 : decode cX11_typeOf 41 = .ok (.getfield 203, 3) := by decide +kernel
theorem dX11_typeOf_44 : decode cX11_typeOf 44 = .ok (.iload_n 2, 1) := by decide +kernel
theorem dX11_typeOf_45 : decode cX11_typeOf 45 = .ok (.iaload, 1) := by decide +kernel
theorem dX11_typeOf_46 : decode cX11_typeOf 46 = .ok (.ireturn, 1) := by decide +kernel
set_option maxRecDepth 20000 in
theorem ggX11_isSameType_X11_neededNode : GoodIn wsX11_isSameType wsX11_neededNode := goodIn_ca (goodIn_r _ [9, 10, 11, 12, 13, 14, 15, 16, 17, 18, 19, 20, 21, 22, 23, 24, 25, 26, 27, 28, 29, 30, 31, 32, 33, 34, 35, 36, 37, 483, 484, 485, 486, 487, 488, 496, 497, 498, 499, 500, 501, 502, 503, 504, 505, 506, 507, 508, 509, 510, 511, 512, 513, 514, 515, 516] rfl (by decide +kernel)) (goodIn_sub (fun _ h => List.mem_cons_of_mem _ (List.mem_append_left _ (List.mem_append_left _ (List.mem_append_right _ h)))) (by decide +kernel))
set_option maxRecDepth 20000 in
theorem gX11_isSameType_X11_neededNode : GoodIn wsX11_isSameType (wsV RX11 178 RX11 yX11_neededNode wsX11_neededNode) := goodIn_app (goodIn_of _ (by decide +kernel)) ggX11_isSameType_X11_neededNode
theorem dX11_isSameType_0 : decode cX11_isSameType 0 = .ok (.aload_n 0, 1) := by decide +kernel
theorem dX11_isSameType_1 : decode cX11_isSameType 1 = .ok (.iload_n 1, 1) := by decide +kernel
theorem dX11_isSameType_2 : decode cX11_isSameType 2 = .ok (.invokevirtual 178, 3) := by decide +kernel
theorem dX11_isSameType_5 : decode cX11_isSameType 5 = .ok (.astore 5, 2) := by decide +kernel
theorem dX11_isSameType_7 : decode cX11_isSameType 7 = .ok (.aload_n 0, 1) := by decide +kernel
theorem dX11_isSameType_8 : decode cX11_isSameType 8 = .ok (.iload_n 3, 1) := by decide +kernel
theorem dX11_isSameType_9 : decode cX11_isSameType 9 = .ok (.invokevirtual 178, 3) := by decide +kernel
theorem dX11_isSameType_12 : decode cX11_isSameType 12 = .ok (.astore 6, 2) := by decide +kernel
theorem dX11_isSameType_14 : decode cX11_isSameType 14 = .ok (.aload_n 0, 1) := by decide +kernel
theorem dX11_isSameType_15 : decode cX11_isSameType 15 = .ok (.iload_n 2, 1) := by decide +kernel
theorem dX11_isSameType_16 : decode cX11_isSameType 16 = .ok (.invokevirtual 130, 3) := by decide +kernel
theorem dX11_isSameType_19 : decode cX11_isSameType 19 = .ok (.aload_n 0, 1) := by decide +kernel
theorem dX11_isSameType_20 : decode cX11_isSameType 20 = .ok (.iload 4, 2) := by decide +kernel
theorem dX11_isSameType_22 : decode cX11_isSameType 22 = .ok (.invokevirtual 130, 3) := by decide +kernel
theorem dX11_isSameType_25 : decode cX11_isSameType 25 = .ok (.aload_n 0, 1) := by decide +kernel
theorem dX11_isSameType_26 : decode cX11_isSameType 26 = .ok (.getfield 21, 3) := by decide +kernel
theorem dX11_isSameType_29 : decode cX11_isSameType 29 = .ok (.aload 5, 2) := by decide +kernel
theorem dX11_isSameType_31 : decode cX11_isSameType 31 = .ok (.invokevirtual 187, 3) := by decide +kernel
theorem dX11_isSameType_34 : decode cX11_isSameType 34 = .ok (.astore 7, 2) := by decide +kernel
theorem dX11_isSameType_36 : decode cX11_isSameType 36 = .ok (.aload_n 0, 1) := by decide +kernel
theorem dX11_isSameType_37 : decode cX11_isSameType 37 = .ok (.getfield 21, 3) := by decide +kernel
theorem dX11_isSameType_40 : decode cX11_isSameType 40 = .ok (.aload 6, 2) := by decide +kernel
theorem dX11_isSameType_42 : decode cX11_isSameType 42 = .ok (.invokevirtual 187, 3) := by decide +kernel
theorem dX11_isSameType_45 : decode cX11_isSameType 45 = .ok (.astore 8, 2) := by decide +kernel
theorem dX11_isSameType_47 : decode cX11_isSameType 47 = .ok (.aload 7, 2) := by decide +kernel
theorem dX11_isSameType_49 : decode cX11_isSameType 49 = .ok (.invokestatic 196, 3) := by decide +kernel
theorem dX11_isSameType_52 : decode cX11_isSameType 52 = .ok (.aload 8, 2) := by decide +kernel
theorem dX11_isSameType_54 : decode cX11_isSameType 54 = .ok (.invokestatic 196, 3) := by decide +kernel
theorem dX11_isSameType_57 : decode cX11_isSameType 57 = .ok (.aload 7, 2) := by decide +kernel
theorem dX11_isSameType_59 : decode cX11_isSameType 59 = .ok (.getfield 203, 3) := by decide +kernel
theorem dX11_isSameType_62 : decode cX11_isSameType 62 = .ok (.iload_n 2, 1) := by decide +kernel
theorem dX11_isSameType_63 : decode cX11_isSameType 63 = .ok (.iaload, 1) := by decide +kernel
theorem dX11_isSameType_64 : decode cX11_isSameType 64 = .ok (.iconst 2, 1) := by decide +kernel
theorem dX11_isSameType_65 : decode cX11_isSameType 65 = .ok (.if_icmp .ne 55, 3) := by decide +kernel
theorem dX11_isSameType_68 : decode cX11_isSameType 68 = .ok (.aload 8, 2) := by decide +kernel
theorem dX11_isSameType_70 : decode cX11_isSameType 70 = .ok (.getfield 203, 3) := by decide +kernel
theorem dX11_isSameType_73 : decode cX11_isSameType 73 = .ok (.iload 4, 2) := by decide +kernel
theorem dX11_isSameType_75 : decode cX11_isSameType 75 = .ok (.iaload, 1) := by decide +kernel
theorem dX11_isSameType_76 : decode cX11_isSameType 76 = .ok (.iconst 2, 1) := by decide +kernel
theorem dX11_isSameType_77 : decode cX11_isSameType 77 = .ok (.if_icmp .ne 43, 3) := by decide +kernel
theorem dX11_isSameType_80 : decode cX11_isSameType 80 = .ok (.aload 7, 2) := by decide +kernel
theorem dX11_isSameType_82 : decode cX11_isSameType 82 = .ok (.getfield 204, 3) := by decide +kernel
theorem dX11_isSameType_85 : decode cX11_isSameType 85 = .ok (.iload_n 2, 1) := by decide +kernel
theorem dX11_isSameType_86 : decode cX11_isSameType 86 = .ok (.aaload, 1) := by decide +kernel
theorem dX11_isSameType_87 : decode cX11_isSameType 87 = .ok (.aload 7, 2) := by decide +kernel
theorem dX11_isSameType_89 : decode cX11_isSameType 89 = .ok (.getfield 208, 3) := by decide +kernel
theorem dX11_isSameType_92 : decode cX11_isSameType 92 = .ok (.iload_n 2, 1) := by decide +kernel
theorem dX11_isSameType_93 : decode cX11_isSameType 93 = .ok (.iaload, 1) := by decide +kernel
theorem dX11_isSameType_94 : decode cX11_isSameType 94 = .ok (.aload 8, 2) := by decide +kernel
theorem dX11_isSameType_96 : decode cX11_isSameType 96 = .ok (.getfield 204, 3) := by decide +kernel
theorem dX11_isSameType_99 : decode cX11_isSameType 99 = .ok (.iload 4, 2) := by decide +kernel
theorem dX11_isSameType_101 : decode cX11_isSameType 101 = .ok (.aaload, 1) := by decide +kernel
theorem dX11_isSameType_102 : decode cX11_isSameType 102 = .ok (.aload 8, 2) := by decide +kernel
theorem dX11_isSameType_104 : decode cX11_isSameType 104 = .ok (.getfield 208, 3) := by decide +kernel
theorem dX11_isSameType_107 : decode cX11_isSameType 107 = .ok (.iload 4, 2) := by decide +kernel
theorem dX11_isSameType_109 : decode cX11_isSameType 109 = .ok (.iaload, 1) := by decide +kernel
theorem dX11_isSameType_110 : decode cX11_isSameType 110 = .ok (.invokestatic 211, 3) := by decide +kernel
theorem dX11_isSameType_113 : decode cX11_isSameType 113 = .ok (.ifCond .eq 7, 3) := by decide +kernel
theorem dX11_isSameType_116 : decode cX11_isSameType 116 = .ok (.iconst 1, 1) := by decide +kernel
theorem dX11_isSameType_117 : decode cX11_isSameType 117 = .ok (.goto 4, 3) := by decide +kernel
theorem dX11_isSameType_120 : decode cX11_isSameType 120 = .ok (.iconst 0, 1) := by decide +kernel
theorem dX11_isSameType_121 : decode cX11_isSameType 121 = .ok (.ireturn, 1) := by decide +kernel
set_option maxRecDepth 20000 in
theorem ggX11_valueOf_X11_neededNode : GoodIn wsX11_valueOf wsX11_neededNode := goodIn_ca (goodIn_r _ [7, 8, 9, 10, 11, 12, 13, 14, 15, 16, 17, 18, 19, 20, 21, 22, 23, 24, 25, 26, 27, 28, 29, 30, 31, 32, 33, 34, 35, 482, 483, 484, 485, 486, 487, 495, 496, 497, 498, 499, 500, 501, 502, 503, 504, 505, 506, 507, 508, 509, 510, 511, 512, 513, 514, 515] rfl (by decide +kernel)) (goodIn_sub (fun _ h => List.mem_cons_of_mem _ (List.mem_append_left _ (List.mem_append_left _ (List.mem_append_right _ h)))) (by decide +kernel))
set_option maxRecDepth 20000 in
theorem gX11_valueOf_X11_neededNode : GoodIn wsX11_valueOf (wsV RX11 178 RX11 yX11_neededNode wsX11_neededNode) := goodIn_app (goodIn_of _ (by decide +kernel)) ggX11_valueOf_X11_neededNode
set_option maxRecDepth 20000 in
theorem ggX11_valueOf_X11_needValueName : GoodIn wsX11_valueOf wsX11_needValueName := goodIn_ca (goodIn_r _ [39, 40, 41, 42, 43, 6, 44] rfl (by decide +kernel)) (goodIn_sub (fun _ h => List.mem_cons_of_mem _ (List.mem_append_left _ (List.mem_append_right _ h))) (by decide +kernel))
set_option maxRecDepth 20000 in
theorem gX11_valueOf_X11_needValueName : GoodIn wsX11_valueOf (wsV RX11 145 RX11 yX11_needValueName wsX11_needValueName) := goodIn_app (goodIn_of _ (by decide +kernel)) ggX11_valueOf_X11_needValueName
theorem dX11_valueOf_0 : decode cX11_valueOf 0 = .ok (.aload_n 0, 1) := by decide +kernel
theorem dX11_valueOf_1 : decode cX11_valueOf 1 = .ok (.iload_n 1, 1) := by decide +kernel
theorem dX11_valueOf_2 : decode cX11_valueOf 2 = .ok (.invokevirtual 178, 3) := by decide +kernel
theorem dX11_valueOf_5 : decode cX11_valueOf 5 = .ok (.astore_n 3, 1) := by decide +kernel
theorem dX11_valueOf_6 : decode cX11_valueOf 6 = .ok (.aload_n 0, 1) := by decide +kernel
theorem dX11_valueOf_7 : decode cX11_valueOf 7 = .ok (.iload_n 2, 1) := by decide +kernel
theorem dX11_valueOf_8 : decode cX11_valueOf 8 = .ok (.invokevirtual 145, 3) := by decide +kernel
theorem dX11_valueOf_11 : decode cX11_valueOf 11 = .ok (.aload_n 0, 1) := by decide +kernel
theorem dX11_valueOf_12 : decode cX11_valueOf 12 = .ok (.getfield 21, 3) := by decide +kernel
theorem dX11_valueOf_15 : decode cX11_valueOf 15 = .ok (.aload_n 3, 1) := by decide +kernel
theorem dX11_valueOf_16 : decode cX11_valueOf 16 = .ok (.invokevirtual 187, 3) := by decide +kernel
theorem dX11_valueOf_19 : decode cX11_valueOf 19 = .ok (.astore 4, 2) := by decide +kernel
theorem dX11_valueOf_21 : decode cX11_valueOf 21 = .ok (.aload 4, 2) := by decide +kernel
theorem dX11_valueOf_23 : decode cX11_valueOf 23 = .ok (.invokestatic 196, 3) := by decide +kernel
theorem dX11_valueOf_26 : decode cX11_valueOf 26 = .ok (.aload 4, 2) := by decide +kernel
theorem dX11_valueOf_28 : decode cX11_valueOf 28 = .ok (.getfield 215, 3) := by decide +kernel
theorem dX11_valueOf_31 : decode cX11_valueOf 31 = .ok (.iload_n 2, 1) := by decide +kernel
theorem dX11_valueOf_32 : decode cX11_valueOf 32 = .ok (.iaload, 1) := by decide +kernel
theorem dX11_valueOf_33 : decode cX11_valueOf 33 = .ok (.ireturn, 1) := by decide +kernel
set_option maxRecDepth 20000 in
theorem ggX11_size_X11_neededNode : GoodIn wsX11_size wsX11_neededNode := goodIn_ca (goodIn_r _ [7, 8, 9, 10, 11, 12, 13, 14, 15, 16, 17, 18, 19, 20, 21, 22, 23, 24, 25, 26, 27, 28, 29, 30, 31, 32, 33, 34, 35, 482, 483, 484, 485, 486, 487, 495, 496, 497, 498, 499, 500, 501, 502, 503, 504, 505, 506, 507, 508, 509, 510, 511, 512, 513, 514, 515] rfl (by decide +kernel)) (goodIn_sub (fun _ h => List.mem_cons_of_mem _ (List.mem_append_left _ (List.mem_append_left _ (List.mem_append_right _ h)))) (by decide +kernel))
set_option maxRecDepth 20000 in
theorem gX11_size_X11_neededNode : GoodIn wsX11_size (wsV RX11 178 RX11 yX11_neededNode wsX11_neededNode) := goodIn_app (goodIn_of _ (by decide +kernel)) ggX11_size_X11_neededNode
set_option maxRecDepth 20000 in
theorem ggX11_size_X11_needValueName : GoodIn wsX11_size wsX11_needValueName := goodIn_ca (goodIn_r _ [39, 40, 41, 42, 43, 6, 44] rfl (by decide +kernel)) (goodIn_sub (fun _ h => List.mem_cons_of_mem _ (List.mem_append_left _ (List.mem_append_right _ h))) (by decide +kernel))
set_option maxRecDepth 20000 in
theorem gX11_size_X11_needValueName : GoodIn wsX11_size (wsV RX11 145 RX11 yX11_needValueName wsX11_needValueName) := goodIn_app (goodIn_of _ (by decide +kernel)) ggX11_size_X11_needValueName
theorem dX11_size_0 : decode cX11_size 0 = .ok (.aload_n 0, 1) := by decide +kernel
theorem dX11_size_1 : decode cX11_size 1 = .ok (.iload_n 1, 1) := by decide +kernel
theorem dX11_size_2 : decode cX11_size 2 = .ok (.invokevirtual 178, 3) := by decide +kernel
theorem dX11_size_5 : decode cX11_size 5 = .ok (.astore_n 3, 1) := by decide +kernel
theorem dX11_size_6 : decode cX11_size 6 = .ok (.aload_n 0, 1) := by decide +kernel
theorem dX11_size_7 : decode cX11_size 7 = .ok (.iload_n 2, 1) := by decide +kernel
theorem dX11_size_8 : decode cX11_size 8 = .ok (.invokevirtual 145, 3) := by decide +kernel
theorem dX11_size_11 : decode cX11_size 11 = .ok (.aload_n 0, 1) := by decide +kernel
theorem dX11_size_12 : decode cX11_size 12 = .ok (.getfield 21, 3) := by decide +kernel
theorem dX11_size_15 : decode cX11_size 15 = .ok (.aload_n 3, 1) := by decide +kernel
theorem dX11_size_16 : decode cX11_size 16 = .ok (.invokevirtual 187, 3) := by decide +kernel
theorem dX11_size_19 : decode cX11_size 19 = .ok (.astore 4, 2) := by decide +kernel
theorem dX11_size_21 : decode cX11_size 21 = .ok (.aload 4, 2) := by decide +kernel
theorem dX11_size_23 : decode cX11_size 23 = .ok (.invokestatic 196, 3) := by decide +kernel
theorem dX11_size_26 : decode cX11_size 26 = .ok (.aload 4, 2) := by decide +kernel
theorem dX11_size_28 : decode cX11_size 28 = .ok (.getfield 208, 3) := by decide +kernel
theorem dX11_size_31 : decode cX11_size 31 = .ok (.bipush 6, 2) := by decide +kernel
theorem dX11_size_33 : decode cX11_size 33 = .ok (.iload_n 2, 1) := by decide +kernel
theorem dX11_size_34 : decode cX11_size 34 = .ok (.iadd, 1) := by decide +kernel
theorem dX11_size_35 : decode cX11_size 35 = .ok (.iaload, 1) := by decide +kernel
theorem dX11_size_36 : decode cX11_size 36 = .ok (.ireturn, 1) := by decide +kernel
set_option maxRecDepth 20000 in
theorem ggX11_run_X11_neededNode : GoodIn wsX11_run wsX11_neededNode := goodIn_ca (goodIn_r _ [10, 11, 12, 13, 14, 15, 16, 17, 18, 19, 20, 21, 22, 23, 24, 25, 26, 27, 28, 29, 30, 31, 32, 33, 34, 35, 36, 37, 38, 669, 670, 671, 672, 673, 674, 682, 683, 684, 685, 686, 687, 688, 689, 690, 691, 692, 693, 694, 695, 696, 697, 698, 699, 700, 701, 702] rfl (by decide +kernel)) (goodIn_sub (fun _ h => List.mem_cons_of_mem _ (List.mem_append_right _ h)) (by decide +kernel))
set_option maxRecDepth 20000 in
theorem gX11_run_X11_neededNode : GoodIn wsX11_run (wsV RX11 178 RX11 yX11_neededNode wsX11_neededNode) := goodIn_app (goodIn_of _ (by decide +kernel)) ggX11_run_X11_neededNode
theorem dX11_run_0 : decode cX11_run 0 = .ok (.aload_n 0, 1) := by decide +kernel
theorem dX11_run_1 : decode cX11_run 1 = .ok (.iload_n 1, 1) := by decide +kernel
theorem dX11_run_2 : decode cX11_run 2 = .ok (.invokevirtual 178, 3) := by decide +kernel
theorem dX11_run_5 : decode cX11_run 5 = .ok (.astore_n 2, 1) := by decide +kernel
theorem dX11_run_6 : decode cX11_run 6 = .ok (.aload_n 0, 1) := by decide +kernel
theorem dX11_run_7 : decode cX11_run 7 = .ok (.getfield 21, 3) := by decide +kernel
theorem dX11_run_10 : decode cX11_run 10 = .ok (.aload_n 2, 1) := by decide +kernel
theorem dX11_run_11 : decode cX11_run 11 = .ok (.invokevirtual 187, 3) := by decide +kernel
theorem dX11_run_14 : decode cX11_run 14 = .ok (.getfield 191, 3) := by decide +kernel
theorem dX11_run_17 : decode cX11_run 17 = .ok (.ifCond .eq 6, 3) := by decide +kernel
theorem dX11_run_20 : decode cX11_run 20 = .ok (.bipush 10, 2) := by decide +kernel
theorem dX11_run_22 : decode cX11_run 22 = .ok (.ireturn, 1) := by decide +kernel
theorem dX11_run_23 : decode cX11_run 23 = .ok (.aload_n 0, 1) := by decide +kernel
theorem dX11_run_24 : decode cX11_run 24 = .ok (.getfield 35, 3) := by decide +kernel
theorem dX11_run_27 : decode cX11_run 27 = .ok (.aload_n 2, 1) := by decide +kernel
theorem dX11_run_28 : decode cX11_run 28 = .ok (.invokevirtual 218, 3) := by decide +kernel
theorem dX11_run_31 : decode cX11_run 31 = .ok (.istore_n 3, 1) := by decide +kernel
theorem dX11_run_32 : decode cX11_run 32 = .ok (.iload_n 3, 1) := by decide +kernel
theorem dX11_run_33 : decode cX11_run 33 = .ok (.ifCond .ne 28, 3) := by decide +kernel
theorem dX11_run_36 : decode cX11_run 36 = .ok (.aload_n 0, 1) := by decide +kernel
theorem dX11_run_37 : decode cX11_run 37 = .ok (.getfield 39, 3) := by decide +kernel
theorem dX11_run_40 : decode cX11_run 40 = .ok (.astore 4, 2) := by decide +kernel
theorem dX11_run_42 : decode cX11_run 42 = .ok (.aload_n 0, 1) := by decide +kernel
theorem dX11_run_43 : decode cX11_run 43 = .ok (.aload_n 0, 1) := by decide +kernel
theorem dX11_run_44 : decode cX11_run 44 = .ok (.getfield 35, 3) := by decide +kernel
theorem dX11_run_47 : decode cX11_run 47 = .ok (.putfield 39, 3) := by decide +kernel
theorem dX11_run_50 : decode cX11_run 50 = .ok (.aload_n 0, 1) := by decide +kernel
theorem dX11_run_51 : decode cX11_run 51 = .ok (.aload 4, 2) := by decide +kernel
theorem dX11_run_53 : decode cX11_run 53 = .ok (.putfield 35, 3) := by decide +kernel
theorem dX11_run_56 : decode cX11_run 56 = .ok (.aload_n 0, 1) := by decide +kernel
theorem dX11_run_57 : decode cX11_run 57 = .ok (.iconst 1, 1) := by decide +kernel
theorem dX11_run_58 : decode cX11_run 58 = .ok (.putfield 222, 3) := by decide +kernel
theorem dX11_run_61 : decode cX11_run 61 = .ok (.iload_n 3, 1) := by decide +kernel
theorem dX11_run_62 : decode cX11_run 62 = .ok (.ireturn, 1) := by decide +kernel
set_option maxRecDepth 20000 in
theorem ggX11_result_X11_needValueName : GoodIn wsX11_result wsX11_needValueName := goodIn_ca (goodIn_r _ [13, 14, 15, 16, 17, 12, 18] rfl (by decide +kernel)) (goodIn_sub (fun _ h => List.mem_cons_of_mem _ (List.mem_append_right _ h)) (by decide +kernel))
set_option maxRecDepth 20000 in
theorem gX11_result_X11_needValueName : GoodIn wsX11_result (wsV RX11 145 RX11 yX11_needValueName wsX11_needValueName) := goodIn_app (goodIn_of _ (by decide +kernel)) ggX11_result_X11_needValueName
theorem dX11_result_0 : decode cX11_result 0 = .ok (.aload_n 0, 1) := by decide +kernel
theorem dX11_result_1 : decode cX11_result 1 = .ok (.iload_n 1, 1) := by decide +kernel
theorem dX11_result_2 : decode cX11_result 2 = .ok (.invokevirtual 145, 3) := by decide +kernel
theorem dX11_result_5 : decode cX11_result 5 = .ok (.aload_n 0, 1) := by decide +kernel
theorem dX11_result_6 : decode cX11_result 6 = .ok (.getfield 222, 3) := by decide +kernel
theorem dX11_result_9 : decode cX11_result 9 = .ok (.ifCond .eq 15, 3) := by decide +kernel
theorem dX11_result_12 : decode cX11_result 12 = .ok (.aload_n 0, 1) := by decide +kernel
theorem dX11_result_13 : decode cX11_result 13 = .ok (.getfield 39, 3) := by decide +kernel
theorem dX11_result_16 : decode cX11_result 16 = .ok (.getfield 226, 3) := by decide +kernel
theorem dX11_result_19 : decode cX11_result 19 = .ok (.iload_n 1, 1) := by decide +kernel
theorem dX11_result_20 : decode cX11_result 20 = .ok (.iaload, 1) := by decide +kernel
theorem dX11_result_21 : decode cX11_result 21 = .ok (.ifCond .ge 13, 3) := by decide +kernel
theorem dX11_result_24 : decode cX11_result 24 = .ok (.new 63, 3) := by decide +kernel
theorem dX11_result_27 : decode cX11_result 27 = .ok (.dup, 1) := by decide +kernel
theorem dX11_result_28 : decode cX11_result 28 = .ok (.ldc 229, 2) := by decide +kernel
theorem dX11_result_30 : decode cX11_result 30 = .ok (.invokespecial 67, 3) := by decide +kernel
theorem dX11_result_33 : decode cX11_result 33 = .ok (.athrow, 1) := by decide +kernel
theorem dX11_result_34 : decode cX11_result 34 = .ok (.aload_n 0, 1) := by decide +kernel
theorem dX11_result_35 : decode cX11_result 35 = .ok (.getfield 39, 3) := by decide +kernel
theorem dX11_result_38 : decode cX11_result 38 = .ok (.getfield 226, 3) := by decide +kernel
theorem dX11_result_41 : decode cX11_result 41 = .ok (.iload_n 1, 1) := by decide +kernel
theorem dX11_result_42 : decode cX11_result 42 = .ok (.iaload, 1) := by decide +kernel
theorem dX11_result_43 : decode cX11_result 43 = .ok (.istore_n 3, 1) := by decide +kernel
theorem dX11_result_44 : decode cX11_result 44 = .ok (.iload_n 2, 1) := by decide +kernel
theorem dX11_result_45 : decode cX11_result 45 = .ok (.ifCond .lt 20, 3) := by decide +kernel
theorem dX11_result_48 : decode cX11_result 48 = .ok (.iload_n 2, 1) := by decide +kernel
theorem dX11_result_49 : decode cX11_result 49 = .ok (.i2l, 1) := by decide +kernel
theorem dX11_result_50 : decode cX11_result 50 = .ok (.aload_n 0, 1) := by decide +kernel
theorem dX11_result_51 : decode cX11_result 51 = .ok (.getfield 39, 3) := by decide +kernel
theorem dX11_result_54 : decode cX11_result 54 = .ok (.getfield 231, 3) := by decide +kernel
theorem dX11_result_57 : decode cX11_result 57 = .ok (.iload_n 3, 1) := by decide +kernel
theorem dX11_result_58 : decode cX11_result 58 = .ok (.invokevirtual 234, 3) := by decide +kernel
theorem dX11_result_61 : decode cX11_result 61 = .ok (.lcmp, 1) := by decide +kernel
theorem dX11_result_62 : decode cX11_result 62 = .ok (.ifCond .lt 13, 3) := by decide +kernel
theorem dX11_result_65 : decode cX11_result 65 = .ok (.new 162, 3) := by decide +kernel
theorem dX11_result_68 : decode cX11_result 68 = .ok (.dup, 1) := by decide +kernel
theorem dX11_result_69 : decode cX11_result 69 = .ok (.ldc 240, 2) := by decide +kernel
theorem dX11_result_71 : decode cX11_result 71 = .ok (.invokespecial 166, 3) := by decide +kernel
theorem dX11_result_74 : decode cX11_result 74 = .ok (.athrow, 1) := by decide +kernel
theorem dX11_result_75 : decode cX11_result 75 = .ok (.aload_n 0, 1) := by decide +kernel
theorem dX11_result_76 : decode cX11_result 76 = .ok (.getfield 39, 3) := by decide +kernel
theorem dX11_result_79 : decode cX11_result 79 = .ok (.getfield 231, 3) := by decide +kernel
theorem dX11_result_82 : decode cX11_result 82 = .ok (.iload_n 3, 1) := by decide +kernel
theorem dX11_result_83 : decode cX11_result 83 = .ok (.iload_n 2, 1) := by decide +kernel
theorem dX11_result_84 : decode cX11_result 84 = .ok (.invokevirtual 242, 3) := by decide +kernel
theorem dX11_result_87 : decode cX11_result 87 = .ok (.ireturn, 1) := by decide +kernel
theorem dX11_logged_0 : decode cX11_logged 0 = .ok (.aload_n 0, 1) := by decide +kernel
theorem dX11_logged_1 : decode cX11_logged 1 = .ok (.getfield 222, 3) := by decide +kernel
theorem dX11_logged_4 : decode cX11_logged 4 = .ok (.ifCond .eq 13, 3) := by decide +kernel
theorem dX11_logged_7 : decode cX11_logged 7 = .ok (.aload_n 0, 1) := by decide +kernel
theorem dX11_logged_8 : decode cX11_logged 8 = .ok (.getfield 39, 3) := by decide +kernel
theorem dX11_logged_11 : decode cX11_logged 11 = .ok (.getfield 245, 3) := by decide +kernel
theorem dX11_logged_14 : decode cX11_logged 14 = .ok (.goto 4, 3) := by decide +kernel
theorem dX11_logged_17 : decode cX11_logged 17 = .ok (.iconst 0, 1) := by decide +kernel
theorem dX11_logged_18 : decode cX11_logged 18 = .ok (.ireturn, 1) := by decide +kernel
theorem dX11_log_0 : decode cX11_log 0 = .ok (.iload_n 1, 1) := by decide +kernel
theorem dX11_log_1 : decode cX11_log 1 = .ok (.ifCond .lt 21, 3) := by decide +kernel
theorem dX11_log_4 : decode cX11_log 4 = .ok (.aload_n 0, 1) := by decide +kernel
theorem dX11_log_5 : decode cX11_log 5 = .ok (.getfield 222, 3) := by decide +kernel
theorem dX11_log_8 : decode cX11_log 8 = .ok (.ifCond .eq 14, 3) := by decide +kernel
theorem dX11_log_11 : decode cX11_log 11 = .ok (.iload_n 1, 1) := by decide +kernel
theorem dX11_log_12 : decode cX11_log 12 = .ok (.aload_n 0, 1) := by decide +kernel
theorem dX11_log_13 : decode cX11_log 13 = .ok (.getfield 39, 3) := by decide +kernel
theorem dX11_log_16 : decode cX11_log 16 = .ok (.getfield 245, 3) := by decide +kernel
theorem dX11_log_19 : decode cX11_log 19 = .ok (.if_icmp .lt 13, 3) := by decide +kernel
theorem dX11_log_22 : decode cX11_log 22 = .ok (.new 162, 3) := by decide +kernel
theorem dX11_log_25 : decode cX11_log 25 = .ok (.dup, 1) := by decide +kernel
theorem dX11_log_26 : decode cX11_log 26 = .ok (.ldc 248, 2) := by decide +kernel
theorem dX11_log_28 : decode cX11_log 28 = .ok (.invokespecial 166, 3) := by decide +kernel
theorem dX11_log_31 : decode cX11_log 31 = .ok (.athrow, 1) := by decide +kernel
theorem dX11_log_32 : decode cX11_log 32 = .ok (.aload_n 0, 1) := by decide +kernel
theorem dX11_log_33 : decode cX11_log 33 = .ok (.getfield 39, 3) := by decide +kernel
theorem dX11_log_36 : decode cX11_log 36 = .ok (.getfield 250, 3) := by decide +kernel
theorem dX11_log_39 : decode cX11_log 39 = .ok (.iload_n 1, 1) := by decide +kernel
theorem dX11_log_40 : decode cX11_log 40 = .ok (.iaload, 1) := by decide +kernel
theorem dX11_log_41 : decode cX11_log 41 = .ok (.ireturn, 1) := by decide +kernel
theorem dX11_total_0 : decode cX11_total 0 = .ok (.aload_n 0, 1) := by decide +kernel
theorem dX11_total_1 : decode cX11_total 1 = .ok (.getfield 222, 3) := by decide +kernel
theorem dX11_total_4 : decode cX11_total 4 = .ok (.ifCond .eq 13, 3) := by decide +kernel
theorem dX11_total_7 : decode cX11_total 7 = .ok (.aload_n 0, 1) := by decide +kernel
theorem dX11_total_8 : decode cX11_total 8 = .ok (.getfield 39, 3) := by decide +kernel
theorem dX11_total_11 : decode cX11_total 11 = .ok (.getfield 253, 3) := by decide +kernel
theorem dX11_total_14 : decode cX11_total 14 = .ok (.goto 4, 3) := by decide +kernel
theorem dX11_total_17 : decode cX11_total 17 = .ok (.iconst 0, 1) := by decide +kernel
theorem dX11_total_18 : decode cX11_total 18 = .ok (.ireturn, 1) := by decide +kernel
theorem dX11_dropped_0 : decode cX11_dropped 0 = .ok (.aload_n 0, 1) := by decide +kernel
theorem dX11_dropped_1 : decode cX11_dropped 1 = .ok (.getfield 222, 3) := by decide +kernel
theorem dX11_dropped_4 : decode cX11_dropped 4 = .ok (.ifCond .eq 21, 3) := by decide +kernel
theorem dX11_dropped_7 : decode cX11_dropped 7 = .ok (.aload_n 0, 1) := by decide +kernel
theorem dX11_dropped_8 : decode cX11_dropped 8 = .ok (.getfield 39, 3) := by decide +kernel
theorem dX11_dropped_11 : decode cX11_dropped 11 = .ok (.getfield 253, 3) := by decide +kernel
theorem dX11_dropped_14 : decode cX11_dropped 14 = .ok (.aload_n 0, 1) := by decide +kernel
theorem dX11_dropped_15 : decode cX11_dropped 15 = .ok (.getfield 39, 3) := by decide +kernel
theorem dX11_dropped_18 : decode cX11_dropped 18 = .ok (.getfield 256, 3) := by decide +kernel
theorem dX11_dropped_21 : decode cX11_dropped 21 = .ok (.isub, 1) := by decide +kernel
theorem dX11_dropped_22 : decode cX11_dropped 22 = .ok (.goto 4, 3) := by decide +kernel
theorem dX11_dropped_25 : decode cX11_dropped 25 = .ok (.iconst 0, 1) := by decide +kernel
theorem dX11_dropped_26 : decode cX11_dropped 26 = .ok (.ireturn, 1) := by decide +kernel
set_option maxRecDepth 20000 in
theorem ggX11_build_X11_neededNode : GoodIn wsX11_build wsX11_neededNode := goodIn_ca (goodIn_r _ [11, 12, 13, 3, 4, 5, 14, 15, 16, 17, 18, 19, 20, 21, 22, 23, 24, 25, 26, 27, 28, 29, 30, 31, 32, 33, 34, 35, 36, 542, 543, 544, 545, 546, 547, 562, 563, 564, 565, 566, 567, 568, 569, 570, 571, 572, 573, 574, 575, 576, 577, 578, 579, 580, 581, 582] rfl (by decide +kernel)) (goodIn_sub (fun _ h => List.mem_cons_of_mem _ (List.mem_append_right _ h)) (by decide +kernel))
set_option maxRecDepth 20000 in
theorem gX11_build_X11_neededNode : GoodIn wsX11_build (wsV RX11 178 RX11 yX11_neededNode wsX11_neededNode) := goodIn_app (goodIn_of _ (by decide +kernel)) ggX11_build_X11_neededNode
set_option maxRecDepth 20000 in
theorem ggX11_build_Jx4a65c_size_8abf5 : GoodIn wsX11_build wsJx4a65c_size_8abf5 := goodIn_r _ [18, 19, 580, 581, 582] rfl (by decide +kernel)
set_option maxRecDepth 20000 in
theorem gX11_build_Jx4a65c_size_8abf5 : GoodIn wsX11_build (wsV RX11 266 RJx4a65c yJx4a65c_size_8abf5 wsJx4a65c_size_8abf5) := goodIn_app (goodIn_of _ (by decide +kernel)) ggX11_build_Jx4a65c_size_8abf5
theorem dX11_build_0 : decode cX11_build 0 = .ok (.aload_n 0, 1) := by decide +kernel
theorem dX11_build_1 : decode cX11_build 1 = .ok (.iload_n 1, 1) := by decide +kernel
theorem dX11_build_2 : decode cX11_build 2 = .ok (.invokevirtual 178, 3) := by decide +kernel
theorem dX11_build_5 : decode cX11_build 5 = .ok (.astore_n 2, 1) := by decide +kernel
theorem dX11_build_6 : decode cX11_build 6 = .ok (.aload_n 0, 1) := by decide +kernel
theorem dX11_build_7 : decode cX11_build 7 = .ok (.getfield 21, 3) := by decide +kernel
theorem dX11_build_10 : decode cX11_build 10 = .ok (.aload_n 2, 1) := by decide +kernel
theorem dX11_build_11 : decode cX11_build 11 = .ok (.invokevirtual 187, 3) := by decide +kernel
theorem dX11_build_14 : decode cX11_build 14 = .ok (.pop, 1) := by decide +kernel
theorem dX11_build_15 : decode cX11_build 15 = .ok (.iconst 0, 1) := by decide +kernel
theorem dX11_build_16 : decode cX11_build 16 = .ok (.istore_n 3, 1) := by decide +kernel
theorem dX11_build_17 : decode cX11_build 17 = .ok (.iconst 0, 1) := by decide +kernel
theorem dX11_build_18 : decode cX11_build 18 = .ok (.istore 4, 2) := by decide +kernel
theorem dX11_build_20 : decode cX11_build 20 = .ok (.iload 4, 2) := by decide +kernel
theorem dX11_build_22 : decode cX11_build 22 = .ok (.aload_n 2, 1) := by decide +kernel
theorem dX11_build_23 : decode cX11_build 23 = .ok (.getfield 259, 3) := by decide +kernel
theorem dX11_build_26 : decode cX11_build 26 = .ok (.if_icmp .gt 61, 3) := by decide +kernel
theorem dX11_build_29 : decode cX11_build 29 = .ok (.iload 4, 2) := by decide +kernel
theorem dX11_build_31 : decode cX11_build 31 = .ok (.aload_n 0, 1) := by decide +kernel
theorem dX11_build_32 : decode cX11_build 32 = .ok (.getfield 12, 3) := by decide +kernel
theorem dX11_build_35 : decode cX11_build 35 = .ok (.getfield 262, 3) := by decide +kernel
theorem dX11_build_38 : decode cX11_build 38 = .ok (.invokevirtual 266, 3) := by decide +kernel
theorem dX11_build_41 : decode cX11_build 41 = .ok (.if_icmp .ge 46, 3) := by decide +kernel
theorem dX11_build_44 : decode cX11_build 44 = .ok (.aload_n 0, 1) := by decide +kernel
theorem dX11_build_45 : decode cX11_build 45 = .ok (.getfield 12, 3) := by decide +kernel
theorem dX11_build_48 : decode cX11_build 48 = .ok (.getfield 262, 3) := by decide +kernel
theorem dX11_build_51 : decode cX11_build 51 = .ok (.iload 4, 2) := by decide +kernel
theorem dX11_build_53 : decode cX11_build 53 = .ok (.invokevirtual 271, 3) := by decide +kernel
theorem dX11_build_56 : decode cX11_build 56 = .ok (.checkcast 170, 3) := by decide +kernel
theorem dX11_build_59 : decode cX11_build 59 = .ok (.astore 5, 2) := by decide +kernel
theorem dX11_build_61 : decode cX11_build 61 = .ok (.aload 5, 2) := by decide +kernel
theorem dX11_build_63 : decode cX11_build 63 = .ok (.getfield 275, 3) := by decide +kernel
theorem dX11_build_66 : decode cX11_build 66 = .ok (.ifCond .eq 15, 3) := by decide +kernel
theorem dX11_build_69 : decode cX11_build 69 = .ok (.aload_n 0, 1) := by decide +kernel
theorem dX11_build_70 : decode cX11_build 70 = .ok (.aload 5, 2) := by decide +kernel
theorem dX11_build_72 : decode cX11_build 72 = .ok (.invokevirtual 278, 3) := by decide +kernel
theorem dX11_build_75 : decode cX11_build 75 = .ok (.ifCond .eq 6, 3) := by decide +kernel
theorem dX11_build_78 : decode cX11_build 78 = .ok (.iinc 3 1, 3) := by decide +kernel
theorem dX11_build_81 : decode cX11_build 81 = .ok (.iinc 4 1, 3) := by decide +kernel
theorem dX11_build_84 : decode cX11_build 84 = .ok (.goto (-64), 3) := by decide +kernel
theorem dX11_build_87 : decode cX11_build 87 = .ok (.iload_n 3, 1) := by decide +kernel
theorem dX11_build_88 : decode cX11_build 88 = .ok (.ireturn, 1) := by decide +kernel
set_option maxRecDepth 20000 in
theorem ggX11_compiled_X11_neededNode : GoodIn wsX11_compiled wsX11_neededNode := goodIn_ca (goodIn_r _ [6, 7, 8, 9, 10, 11, 12, 13, 14, 15, 16, 17, 18, 19, 20, 21, 22, 23, 24, 25, 26, 27, 28, 29, 30, 31, 32, 33, 34, 49, 50, 51, 52, 53, 54, 55, 56, 57, 58, 59, 60, 61, 62, 63, 64, 65, 66, 67, 68, 69, 70, 71, 72, 73, 74, 75] rfl (by decide +kernel)) (goodIn_sub (fun _ h => List.mem_cons_of_mem _ (List.mem_append_right _ h)) (by decide +kernel))
set_option maxRecDepth 20000 in
theorem gX11_compiled_X11_neededNode : GoodIn wsX11_compiled (wsV RX11 178 RX11 yX11_neededNode wsX11_neededNode) := goodIn_app (goodIn_of _ (by decide +kernel)) ggX11_compiled_X11_neededNode
theorem dX11_compiled_0 : decode cX11_compiled 0 = .ok (.aload_n 0, 1) := by decide +kernel
theorem dX11_compiled_1 : decode cX11_compiled 1 = .ok (.iload_n 1, 1) := by decide +kernel
theorem dX11_compiled_2 : decode cX11_compiled 2 = .ok (.invokevirtual 178, 3) := by decide +kernel
theorem dX11_compiled_5 : decode cX11_compiled 5 = .ok (.getfield 282, 3) := by decide +kernel
theorem dX11_compiled_8 : decode cX11_compiled 8 = .ok (.ireturn, 1) := by decide +kernel
set_option maxRecDepth 20000 in
theorem ggX11_isFresh_X11_neededNode : GoodIn wsX11_isFresh wsX11_neededNode := goodIn_ca (goodIn_r _ [9, 10, 11, 12, 13, 14, 15, 16, 17, 18, 19, 20, 21, 22, 23, 24, 25, 26, 27, 28, 29, 30, 31, 32, 33, 34, 35, 36, 37, 518, 519, 520, 521, 522, 523, 524, 525, 526, 527, 528, 529, 530, 531, 532, 533, 534, 535, 536, 537, 538, 539, 540, 541, 542, 543, 544] rfl (by decide +kernel)) (goodIn_sub (fun _ h => List.mem_cons_of_mem _ (List.mem_append_right _ h)) (by decide +kernel))
set_option maxRecDepth 20000 in
theorem gX11_isFresh_X11_neededNode : GoodIn wsX11_isFresh (wsV RX11 178 RX11 yX11_neededNode wsX11_neededNode) := goodIn_app (goodIn_of _ (by decide +kernel)) ggX11_isFresh_X11_neededNode
theorem dX11_isFresh_0 : decode cX11_isFresh 0 = .ok (.aload_n 0, 1) := by decide +kernel
theorem dX11_isFresh_1 : decode cX11_isFresh 1 = .ok (.iload_n 1, 1) := by decide +kernel
theorem dX11_isFresh_2 : decode cX11_isFresh 2 = .ok (.invokevirtual 178, 3) := by decide +kernel
theorem dX11_isFresh_5 : decode cX11_isFresh 5 = .ok (.astore_n 2, 1) := by decide +kernel
theorem dX11_isFresh_6 : decode cX11_isFresh 6 = .ok (.aload_n 2, 1) := by decide +kernel
theorem dX11_isFresh_7 : decode cX11_isFresh 7 = .ok (.getfield 282, 3) := by decide +kernel
theorem dX11_isFresh_10 : decode cX11_isFresh 10 = .ok (.ifCond .ne 5, 3) := by decide +kernel
theorem dX11_isFresh_13 : decode cX11_isFresh 13 = .ok (.iconst 1, 1) := by decide +kernel
theorem dX11_isFresh_14 : decode cX11_isFresh 14 = .ok (.ireturn, 1) := by decide +kernel
theorem dX11_isFresh_15 : decode cX11_isFresh 15 = .ok (.aload_n 0, 1) := by decide +kernel
theorem dX11_isFresh_16 : decode cX11_isFresh 16 = .ok (.getfield 28, 3) := by decide +kernel
theorem dX11_isFresh_19 : decode cX11_isFresh 19 = .ok (.invokevirtual 285, 3) := by decide +kernel
theorem dX11_isFresh_22 : decode cX11_isFresh 22 = .ok (.aload_n 0, 1) := by decide +kernel
theorem dX11_isFresh_23 : decode cX11_isFresh 23 = .ok (.getfield 28, 3) := by decide +kernel
theorem dX11_isFresh_26 : decode cX11_isFresh 26 = .ok (.aload_n 0, 1) := by decide +kernel
theorem dX11_isFresh_27 : decode cX11_isFresh 27 = .ok (.getfield 21, 3) := by decide +kernel
theorem dX11_isFresh_30 : decode cX11_isFresh 30 = .ok (.aload_n 2, 1) := by decide +kernel
theorem dX11_isFresh_31 : decode cX11_isFresh 31 = .ok (.invokevirtual 187, 3) := by decide +kernel
theorem dX11_isFresh_34 : decode cX11_isFresh 34 = .ok (.iconst (-1), 1) := by decide +kernel
theorem dX11_isFresh_35 : decode cX11_isFresh 35 = .ok (.invokevirtual 288, 3) := by decide +kernel
theorem dX11_isFresh_38 : decode cX11_isFresh 38 = .ok (.aload_n 0, 1) := by decide +kernel
theorem dX11_isFresh_39 : decode cX11_isFresh 39 = .ok (.getfield 28, 3) := by decide +kernel
theorem dX11_isFresh_42 : decode cX11_isFresh 42 = .ok (.aload_n 2, 1) := by decide +kernel
theorem dX11_isFresh_43 : decode cX11_isFresh 43 = .ok (.getfield 292, 3) := by decide +kernel
theorem dX11_isFresh_46 : decode cX11_isFresh 46 = .ok (.invokevirtual 295, 3) := by decide +kernel
theorem dX11_isFresh_49 : decode cX11_isFresh 49 = .ok (.ireturn, 1) := by decide +kernel
theorem dX11_needType_0 : decode cX11_needType 0 = .ok (.iload_n 1, 1) := by decide +kernel
theorem dX11_needType_1 : decode cX11_needType 1 = .ok (.ifCond .lt 14, 3) := by decide +kernel
theorem dX11_needType_4 : decode cX11_needType 4 = .ok (.iload_n 1, 1) := by decide +kernel
theorem dX11_needType_5 : decode cX11_needType 5 = .ok (.aload_n 0, 1) := by decide +kernel
theorem dX11_needType_6 : decode cX11_needType 6 = .ok (.getfield 12, 3) := by decide +kernel
theorem dX11_needType_9 : decode cX11_needType 9 = .ok (.getfield 59, 3) := by decide +kernel
theorem dX11_needType_12 : decode cX11_needType 12 = .ok (.if_icmp .lt 14, 3) := by decide +kernel
theorem dX11_needType_15 : decode cX11_needType 15 = .ok (.new 162, 3) := by decide +kernel
theorem dX11_needType_18 : decode cX11_needType 18 = .ok (.dup, 1) := by decide +kernel
theorem dX11_needType_19 : decode cX11_needType 19 = .ok (.ldc_w 341, 3) := by decide +kernel
theorem dX11_needType_22 : decode cX11_needType 22 = .ok (.invokespecial 166, 3) := by decide +kernel
theorem dX11_needType_25 : decode cX11_needType 25 = .ok (.athrow, 1) := by decide +kernel
theorem dX11_needType_26 : decode cX11_needType 26 = .ok (.return_, 1) := by decide +kernel
theorem dX11_needExpression_0 : decode cX11_needExpression 0 = .ok (.iload_n 1, 1) := by decide +kernel
theorem dX11_needExpression_1 : decode cX11_needExpression 1 = .ok (.ifCond .lt 14, 3) := by decide +kernel
theorem dX11_needExpression_4 : decode cX11_needExpression 4 = .ok (.iload_n 1, 1) := by decide +kernel
theorem dX11_needExpression_5 : decode cX11_needExpression 5 = .ok (.aload_n 0, 1) := by decide +kernel
theorem dX11_needExpression_6 : decode cX11_needExpression 6 = .ok (.getfield 12, 3) := by decide +kernel
theorem dX11_needExpression_9 : decode cX11_needExpression 9 = .ok (.getfield 87, 3) := by decide +kernel
theorem dX11_needExpression_12 : decode cX11_needExpression 12 = .ok (.if_icmp .lt 14, 3) := by decide +kernel
theorem dX11_needExpression_15 : decode cX11_needExpression 15 = .ok (.new 162, 3) := by decide +kernel
theorem dX11_needExpression_18 : decode cX11_needExpression 18 = .ok (.dup, 1) := by decide +kernel
theorem dX11_needExpression_19 : decode cX11_needExpression 19 = .ok (.ldc_w 343, 3) := by decide +kernel
theorem dX11_needExpression_22 : decode cX11_needExpression 22 = .ok (.invokespecial 166, 3) := by decide +kernel
theorem dX11_needExpression_25 : decode cX11_needExpression 25 = .ok (.athrow, 1) := by decide +kernel
theorem dX11_needExpression_26 : decode cX11_needExpression 26 = .ok (.return_, 1) := by decide +kernel
theorem dX11_needUnit_0 : decode cX11_needUnit 0 = .ok (.iload_n 1, 1) := by decide +kernel
theorem dX11_needUnit_1 : decode cX11_needUnit 1 = .ok (.ifCond .lt 14, 3) := by decide +kernel
theorem dX11_needUnit_4 : decode cX11_needUnit 4 = .ok (.iload_n 1, 1) := by decide +kernel
theorem dX11_needUnit_5 : decode cX11_needUnit 5 = .ok (.aload_n 0, 1) := by decide +kernel
theorem dX11_needUnit_6 : decode cX11_needUnit 6 = .ok (.getfield 12, 3) := by decide +kernel
theorem dX11_needUnit_9 : decode cX11_needUnit 9 = .ok (.getfield 110, 3) := by decide +kernel
theorem dX11_needUnit_12 : decode cX11_needUnit 12 = .ok (.if_icmp .lt 14, 3) := by decide +kernel
theorem dX11_needUnit_15 : decode cX11_needUnit 15 = .ok (.new 162, 3) := by decide +kernel
theorem dX11_needUnit_18 : decode cX11_needUnit 18 = .ok (.dup, 1) := by decide +kernel
theorem dX11_needUnit_19 : decode cX11_needUnit 19 = .ok (.ldc_w 345, 3) := by decide +kernel
theorem dX11_needUnit_22 : decode cX11_needUnit 22 = .ok (.invokespecial 166, 3) := by decide +kernel
theorem dX11_needUnit_25 : decode cX11_needUnit 25 = .ok (.athrow, 1) := by decide +kernel
theorem dX11_needUnit_26 : decode cX11_needUnit 26 = .ok (.return_, 1) := by decide +kernel
set_option maxRecDepth 20000 in
theorem ggX11_neededNode_Jx4a65c_size_8abf5 : GoodIn wsX11_neededNode wsJx4a65c_size_8abf5 := goodIn_r _ [10, 11, 53, 54, 55] rfl (by decide +kernel)
set_option maxRecDepth 20000 in
theorem gX11_neededNode_Jx4a65c_size_8abf5 : GoodIn wsX11_neededNode (wsV RX11 266 RJx4a65c yJx4a65c_size_8abf5 wsJx4a65c_size_8abf5) := goodIn_app (goodIn_of _ (by decide +kernel)) ggX11_neededNode_Jx4a65c_size_8abf5
theorem dX11_neededNode_0 : decode cX11_neededNode 0 = .ok (.iload_n 1, 1) := by decide +kernel
theorem dX11_neededNode_1 : decode cX11_neededNode 1 = .ok (.ifCond .lt 17, 3) := by decide +kernel
theorem dX11_neededNode_4 : decode cX11_neededNode 4 = .ok (.iload_n 1, 1) := by decide +kernel
theorem dX11_neededNode_5 : decode cX11_neededNode 5 = .ok (.aload_n 0, 1) := by decide +kernel
theorem dX11_neededNode_6 : decode cX11_neededNode 6 = .ok (.getfield 12, 3) := by decide +kernel
theorem dX11_neededNode_9 : decode cX11_neededNode 9 = .ok (.getfield 262, 3) := by decide +kernel
theorem dX11_neededNode_12 : decode cX11_neededNode 12 = .ok (.invokevirtual 266, 3) := by decide +kernel
theorem dX11_neededNode_15 : decode cX11_neededNode 15 = .ok (.if_icmp .lt 14, 3) := by decide +kernel
theorem dX11_neededNode_18 : decode cX11_neededNode 18 = .ok (.new 162, 3) := by decide +kernel
theorem dX11_neededNode_21 : decode cX11_neededNode 21 = .ok (.dup, 1) := by decide +kernel
theorem dX11_neededNode_22 : decode cX11_neededNode 22 = .ok (.ldc_w 347, 3) := by decide +kernel
theorem dX11_neededNode_25 : decode cX11_neededNode 25 = .ok (.invokespecial 166, 3) := by decide +kernel
theorem dX11_neededNode_28 : decode cX11_neededNode 28 = .ok (.athrow, 1) := by decide +kernel
theorem dX11_neededNode_29 : decode cX11_neededNode 29 = .ok (.aload_n 0, 1) := by decide +kernel
theorem dX11_neededNode_30 : decode cX11_neededNode 30 = .ok (.getfield 12, 3) := by decide +kernel
theorem dX11_neededNode_33 : decode cX11_neededNode 33 = .ok (.getfield 262, 3) := by decide +kernel
theorem dX11_neededNode_36 : decode cX11_neededNode 36 = .ok (.iload_n 1, 1) := by decide +kernel
theorem dX11_neededNode_37 : decode cX11_neededNode 37 = .ok (.invokevirtual 271, 3) := by decide +kernel
theorem dX11_neededNode_40 : decode cX11_neededNode 40 = .ok (.checkcast 170, 3) := by decide +kernel
theorem dX11_neededNode_43 : decode cX11_neededNode 43 = .ok (.areturn, 1) := by decide +kernel
set_option maxRecDepth 20000 in
theorem ggX11_needValueName_X11_isValueName : GoodIn wsX11_needValueName wsX11_isValueName := goodIn_r _ [6] rfl (by decide +kernel)
set_option maxRecDepth 20000 in
theorem gX11_needValueName_X11_isValueName : GoodIn wsX11_needValueName (va_wsS RX11 82 yX11_isValueName wsX11_isValueName) := goodIn_app (goodIn_of _ (by decide +kernel)) ggX11_needValueName_X11_isValueName
theorem dX11_needValueName_0 : decode cX11_needValueName 0 = .ok (.iload_n 1, 1) := by decide +kernel
theorem dX11_needValueName_1 : decode cX11_needValueName 1 = .ok (.invokestatic 82, 3) := by decide +kernel
theorem dX11_needValueName_4 : decode cX11_needValueName 4 = .ok (.ifCond .ne 13, 3) := by decide +kernel
theorem dX11_needValueName_7 : decode cX11_needValueName 7 = .ok (.new 42, 3) := by decide +kernel
theorem dX11_needValueName_10 : decode cX11_needValueName 10 = .ok (.dup, 1) := by decide +kernel
theorem dX11_needValueName_11 : decode cX11_needValueName 11 = .ok (.ldc 85, 2) := by decide +kernel
theorem dX11_needValueName_13 : decode cX11_needValueName 13 = .ok (.invokespecial 46, 3) := by decide +kernel
theorem dX11_needValueName_16 : decode cX11_needValueName 16 = .ok (.athrow, 1) := by decide +kernel
theorem dX11_needValueName_17 : decode cX11_needValueName 17 = .ok (.return_, 1) := by decide +kernel
theorem dX11_isTypeName_0 : decode cX11_isTypeName 0 = .ok (.iload_n 0, 1) := by decide +kernel
theorem dX11_isTypeName_1 : decode cX11_isTypeName 1 = .ok (.ifCond .lt 13, 3) := by decide +kernel
theorem dX11_isTypeName_4 : decode cX11_isTypeName 4 = .ok (.iload_n 0, 1) := by decide +kernel
theorem dX11_isTypeName_5 : decode cX11_isTypeName 5 = .ok (.bipush 6, 2) := by decide +kernel
theorem dX11_isTypeName_7 : decode cX11_isTypeName 7 = .ok (.if_icmp .ge 7, 3) := by decide +kernel
theorem dX11_isTypeName_10 : decode cX11_isTypeName 10 = .ok (.iconst 1, 1) := by decide +kernel
theorem dX11_isTypeName_11 : decode cX11_isTypeName 11 = .ok (.goto 4, 3) := by decide +kernel
theorem dX11_isTypeName_14 : decode cX11_isTypeName 14 = .ok (.iconst 0, 1) := by decide +kernel
theorem dX11_isTypeName_15 : decode cX11_isTypeName 15 = .ok (.ireturn, 1) := by decide +kernel
theorem dX11_isValueName_0 : decode cX11_isValueName 0 = .ok (.iload_n 0, 1) := by decide +kernel
theorem dX11_isValueName_1 : decode cX11_isValueName 1 = .ok (.ifCond .lt 13, 3) := by decide +kernel
theorem dX11_isValueName_4 : decode cX11_isValueName 4 = .ok (.iload_n 0, 1) := by decide +kernel
theorem dX11_isValueName_5 : decode cX11_isValueName 5 = .ok (.bipush 10, 2) := by decide +kernel
theorem dX11_isValueName_7 : decode cX11_isValueName 7 = .ok (.if_icmp .ge 7, 3) := by decide +kernel
theorem dX11_isValueName_10 : decode cX11_isValueName 10 = .ok (.iconst 1, 1) := by decide +kernel
theorem dX11_isValueName_11 : decode cX11_isValueName 11 = .ok (.goto 4, 3) := by decide +kernel
theorem dX11_isValueName_14 : decode cX11_isValueName 14 = .ok (.iconst 0, 1) := by decide +kernel
theorem dX11_isValueName_15 : decode cX11_isValueName 15 = .ok (.ireturn, 1) := by decide +kernel
theorem dX12_init_0 : decode cX12_init 0 = .ok (.aload_n 0, 1) := by decide +kernel
theorem dX12_init_1 : decode cX12_init 1 = .ok (.invokespecial 1, 3) := by decide +kernel
theorem dX12_init_4 : decode cX12_init 4 = .ok (.aload_n 0, 1) := by decide +kernel
theorem dX12_init_5 : decode cX12_init 5 = .ok (.bipush 60, 2) := by decide +kernel
theorem dX12_init_7 : decode cX12_init 7 = .ok (.newarray .int, 2) := by decide +kernel
theorem dX12_init_9 : decode cX12_init 9 = .ok (.putfield 7, 3) := by decide +kernel
theorem dX12_init_12 : decode cX12_init 12 = .ok (.aload_n 0, 1) := by decide +kernel
theorem dX12_init_13 : decode cX12_init 13 = .ok (.bipush 60, 2) := by decide +kernel
theorem dX12_init_15 : decode cX12_init 15 = .ok (.newarray .int, 2) := by decide +kernel
theorem dX12_init_17 : decode cX12_init 17 = .ok (.putfield 13, 3) := by decide +kernel
theorem dX12_init_20 : decode cX12_init 20 = .ok (.aload_n 0, 1) := by decide +kernel
theorem dX12_init_21 : decode cX12_init 21 = .ok (.bipush 60, 2) := by decide +kernel
theorem dX12_init_23 : decode cX12_init 23 = .ok (.newarray .int, 2) := by decide +kernel
theorem dX12_init_25 : decode cX12_init 25 = .ok (.putfield 16, 3) := by decide +kernel
theorem dX12_init_28 : decode cX12_init 28 = .ok (.aload_n 0, 1) := by decide +kernel
theorem dX12_init_29 : decode cX12_init 29 = .ok (.bipush 60, 2) := by decide +kernel
theorem dX12_init_31 : decode cX12_init 31 = .ok (.newarray .int, 2) := by decide +kernel
theorem dX12_init_33 : decode cX12_init 33 = .ok (.putfield 19, 3) := by decide +kernel
theorem dX12_init_36 : decode cX12_init 36 = .ok (.aload_n 0, 1) := by decide +kernel
theorem dX12_init_37 : decode cX12_init 37 = .ok (.bipush 60, 2) := by decide +kernel
theorem dX12_init_39 : decode cX12_init 39 = .ok (.newarray .int, 2) := by decide +kernel
theorem dX12_init_41 : decode cX12_init 41 = .ok (.putfield 22, 3) := by decide +kernel
theorem dX12_init_44 : decode cX12_init 44 = .ok (.aload_n 0, 1) := by decide +kernel
theorem dX12_init_45 : decode cX12_init 45 = .ok (.bipush 120, 2) := by decide +kernel
theorem dX12_init_47 : decode cX12_init 47 = .ok (.newarray .int, 2) := by decide +kernel
theorem dX12_init_49 : decode cX12_init 49 = .ok (.putfield 25, 3) := by decide +kernel
theorem dX12_init_52 : decode cX12_init 52 = .ok (.aload_n 0, 1) := by decide +kernel
theorem dX12_init_53 : decode cX12_init 53 = .ok (.bipush 120, 2) := by decide +kernel
theorem dX12_init_55 : decode cX12_init 55 = .ok (.newarray .int, 2) := by decide +kernel
theorem dX12_init_57 : decode cX12_init 57 = .ok (.putfield 28, 3) := by decide +kernel
theorem dX12_init_60 : decode cX12_init 60 = .ok (.aload_n 0, 1) := by decide +kernel
theorem dX12_init_61 : decode cX12_init 61 = .ok (.bipush 120, 2) := by decide +kernel
theorem dX12_init_63 : decode cX12_init 63 = .ok (.newarray .int, 2) := by decide +kernel
theorem dX12_init_65 : decode cX12_init 65 = .ok (.putfield 31, 3) := by decide +kernel
theorem dX12_init_68 : decode cX12_init 68 = .ok (.aload_n 0, 1) := by decide +kernel
theorem dX12_init_69 : decode cX12_init 69 = .ok (.bipush 120, 2) := by decide +kernel
theorem dX12_init_71 : decode cX12_init 71 = .ok (.newarray .int, 2) := by decide +kernel
theorem dX12_init_73 : decode cX12_init 73 = .ok (.putfield 34, 3) := by decide +kernel
theorem dX12_init_76 : decode cX12_init 76 = .ok (.aload_n 0, 1) := by decide +kernel
theorem dX12_init_77 : decode cX12_init 77 = .ok (.bipush 120, 2) := by decide +kernel
theorem dX12_init_79 : decode cX12_init 79 = .ok (.newarray .int, 2) := by decide +kernel
theorem dX12_init_81 : decode cX12_init 81 = .ok (.putfield 37, 3) := by decide +kernel
theorem dX12_init_84 : decode cX12_init 84 = .ok (.aload_n 0, 1) := by decide +kernel
theorem dX12_init_85 : decode cX12_init 85 = .ok (.bipush 8, 2) := by decide +kernel
theorem dX12_init_87 : decode cX12_init 87 = .ok (.newarray .int, 2) := by decide +kernel
theorem dX12_init_89 : decode cX12_init 89 = .ok (.putfield 40, 3) := by decide +kernel
theorem dX12_init_92 : decode cX12_init 92 = .ok (.aload_n 0, 1) := by decide +kernel
theorem dX12_init_93 : decode cX12_init 93 = .ok (.sipush 240, 3) := by decide +kernel
theorem dX12_init_96 : decode cX12_init 96 = .ok (.newarray .int, 2) := by decide +kernel
theorem dX12_init_98 : decode cX12_init 98 = .ok (.putfield 43, 3) := by decide +kernel
theorem dX12_init_101 : decode cX12_init 101 = .ok (.aload_n 0, 1) := by decide +kernel
theorem dX12_init_102 : decode cX12_init 102 = .ok (.sipush 400, 3) := by decide +kernel
theorem dX12_init_105 : decode cX12_init 105 = .ok (.newarray .int, 2) := by decide +kernel
theorem dX12_init_107 : decode cX12_init 107 = .ok (.putfield 46, 3) := by decide +kernel
theorem dX12_init_110 : decode cX12_init 110 = .ok (.aload_n 0, 1) := by decide +kernel
theorem dX12_init_111 : decode cX12_init 111 = .ok (.sipush 400, 3) := by decide +kernel
theorem dX12_init_114 : decode cX12_init 114 = .ok (.newarray .int, 2) := by decide +kernel
theorem dX12_init_116 : decode cX12_init 116 = .ok (.putfield 49, 3) := by decide +kernel
theorem dX12_init_119 : decode cX12_init 119 = .ok (.aload_n 0, 1) := by decide +kernel
theorem dX12_init_120 : decode cX12_init 120 = .ok (.sipush 400, 3) := by decide +kernel
theorem dX12_init_123 : decode cX12_init 123 = .ok (.newarray .int, 2) := by decide +kernel
theorem dX12_init_125 : decode cX12_init 125 = .ok (.putfield 52, 3) := by decide +kernel
theorem dX12_init_128 : decode cX12_init 128 = .ok (.aload_n 0, 1) := by decide +kernel
theorem dX12_init_129 : decode cX12_init 129 = .ok (.bipush 40, 2) := by decide +kernel
theorem dX12_init_131 : decode cX12_init 131 = .ok (.newarray .int, 2) := by decide +kernel
theorem dX12_init_133 : decode cX12_init 133 = .ok (.putfield 55, 3) := by decide +kernel
theorem dX12_init_136 : decode cX12_init 136 = .ok (.aload_n 0, 1) := by decide +kernel
theorem dX12_init_137 : decode cX12_init 137 = .ok (.bipush 40, 2) := by decide +kernel
theorem dX12_init_139 : decode cX12_init 139 = .ok (.newarray .int, 2) := by decide +kernel
theorem dX12_init_141 : decode cX12_init 141 = .ok (.putfield 58, 3) := by decide +kernel
theorem dX12_init_144 : decode cX12_init 144 = .ok (.aload_n 0, 1) := by decide +kernel
theorem dX12_init_145 : decode cX12_init 145 = .ok (.bipush 40, 2) := by decide +kernel
theorem dX12_init_147 : decode cX12_init 147 = .ok (.newarray .int, 2) := by decide +kernel
theorem dX12_init_149 : decode cX12_init 149 = .ok (.putfield 61, 3) := by decide +kernel
theorem dX12_init_152 : decode cX12_init 152 = .ok (.aload_n 0, 1) := by decide +kernel
theorem dX12_init_153 : decode cX12_init 153 = .ok (.bipush 40, 2) := by decide +kernel
theorem dX12_init_155 : decode cX12_init 155 = .ok (.newarray .int, 2) := by decide +kernel
theorem dX12_init_157 : decode cX12_init 157 = .ok (.putfield 64, 3) := by decide +kernel
theorem dX12_init_160 : decode cX12_init 160 = .ok (.aload_n 0, 1) := by decide +kernel
theorem dX12_init_161 : decode cX12_init 161 = .ok (.bipush 40, 2) := by decide +kernel
theorem dX12_init_163 : decode cX12_init 163 = .ok (.newarray .int, 2) := by decide +kernel
theorem dX12_init_165 : decode cX12_init 165 = .ok (.putfield 67, 3) := by decide +kernel
theorem dX12_init_168 : decode cX12_init 168 = .ok (.aload_n 0, 1) := by decide +kernel
theorem dX12_init_169 : decode cX12_init 169 = .ok (.bipush 40, 2) := by decide +kernel
theorem dX12_init_171 : decode cX12_init 171 = .ok (.newarray .boolean, 2) := by decide +kernel
theorem dX12_init_173 : decode cX12_init 173 = .ok (.putfield 70, 3) := by decide +kernel
theorem dX12_init_176 : decode cX12_init 176 = .ok (.aload_n 0, 1) := by decide +kernel
theorem dX12_init_177 : decode cX12_init 177 = .ok (.ldc 74, 2) := by decide +kernel
theorem dX12_init_179 : decode cX12_init 179 = .ok (.newarray .int, 2) := by decide +kernel
theorem dX12_init_181 : decode cX12_init 181 = .ok (.putfield 75, 3) := by decide +kernel
theorem dX12_init_184 : decode cX12_init 184 = .ok (.aload_n 0, 1) := by decide +kernel
theorem dX12_init_185 : decode cX12_init 185 = .ok (.ldc 74, 2) := by decide +kernel
theorem dX12_init_187 : decode cX12_init 187 = .ok (.newarray .int, 2) := by decide +kernel
theorem dX12_init_189 : decode cX12_init 189 = .ok (.putfield 78, 3) := by decide +kernel
theorem dX12_init_192 : decode cX12_init 192 = .ok (.aload_n 0, 1) := by decide +kernel
theorem dX12_init_193 : decode cX12_init 193 = .ok (.ldc 74, 2) := by decide +kernel
theorem dX12_init_195 : decode cX12_init 195 = .ok (.newarray .int, 2) := by decide +kernel
theorem dX12_init_197 : decode cX12_init 197 = .ok (.putfield 81, 3) := by decide +kernel
theorem dX12_init_200 : decode cX12_init 200 = .ok (.aload_n 0, 1) := by decide +kernel
theorem dX12_init_201 : decode cX12_init 201 = .ok (.ldc 74, 2) := by decide +kernel
theorem dX12_init_203 : decode cX12_init 203 = .ok (.newarray .int, 2) := by decide +kernel
theorem dX12_init_205 : decode cX12_init 205 = .ok (.putfield 84, 3) := by decide +kernel
theorem dX12_init_208 : decode cX12_init 208 = .ok (.aload_n 0, 1) := by decide +kernel
theorem dX12_init_209 : decode cX12_init 209 = .ok (.ldc 74, 2) := by decide +kernel
theorem dX12_init_211 : decode cX12_init 211 = .ok (.newarray .int, 2) := by decide +kernel
theorem dX12_init_213 : decode cX12_init 213 = .ok (.putfield 87, 3) := by decide +kernel
theorem dX12_init_216 : decode cX12_init 216 = .ok (.aload_n 0, 1) := by decide +kernel
theorem dX12_init_217 : decode cX12_init 217 = .ok (.sipush 16384, 3) := by decide +kernel
theorem dX12_init_220 : decode cX12_init 220 = .ok (.newarray .int, 2) := by decide +kernel
theorem dX12_init_222 : decode cX12_init 222 = .ok (.putfield 90, 3) := by decide +kernel
theorem dX12_init_225 : decode cX12_init 225 = .ok (.aload_n 0, 1) := by decide +kernel
theorem dX12_init_226 : decode cX12_init 226 = .ok (.ldc 74, 2) := by decide +kernel
theorem dX12_init_228 : decode cX12_init 228 = .ok (.newarray .int, 2) := by decide +kernel
theorem dX12_init_230 : decode cX12_init 230 = .ok (.putfield 93, 3) := by decide +kernel
theorem dX12_init_233 : decode cX12_init 233 = .ok (.aload_n 0, 1) := by decide +kernel
theorem dX12_init_234 : decode cX12_init 234 = .ok (.ldc 74, 2) := by decide +kernel
theorem dX12_init_236 : decode cX12_init 236 = .ok (.newarray .int, 2) := by decide +kernel
theorem dX12_init_238 : decode cX12_init 238 = .ok (.putfield 96, 3) := by decide +kernel
theorem dX12_init_241 : decode cX12_init 241 = .ok (.aload_n 0, 1) := by decide +kernel
theorem dX12_init_242 : decode cX12_init 242 = .ok (.sipush 20000, 3) := by decide +kernel
theorem dX12_init_245 : decode cX12_init 245 = .ok (.newarray .int, 2) := by decide +kernel
theorem dX12_init_247 : decode cX12_init 247 = .ok (.putfield 99, 3) := by decide +kernel
theorem dX12_init_250 : decode cX12_init 250 = .ok (.aload_n 0, 1) := by decide +kernel
theorem dX12_init_251 : decode cX12_init 251 = .ok (.bipush 6, 2) := by decide +kernel
theorem dX12_init_253 : decode cX12_init 253 = .ok (.newarray .int, 2) := by decide +kernel
theorem dX12_init_255 : decode cX12_init 255 = .ok (.putfield 102, 3) := by decide +kernel
theorem dX12_init_258 : decode cX12_init 258 = .ok (.aload_n 0, 1) := by decide +kernel
theorem dX12_init_259 : decode cX12_init 259 = .ok (.bipush 6, 2) := by decide +kernel
theorem dX12_init_261 : decode cX12_init 261 = .ok (.newarray .int, 2) := by decide +kernel
theorem dX12_init_263 : decode cX12_init 263 = .ok (.putfield 105, 3) := by decide +kernel
theorem dX12_init_266 : decode cX12_init 266 = .ok (.aload_n 0, 1) := by decide +kernel
theorem dX12_init_267 : decode cX12_init 267 = .ok (.ldc 108, 2) := by decide +kernel
theorem dX12_init_269 : decode cX12_init 269 = .ok (.newarray .int, 2) := by decide +kernel
theorem dX12_init_271 : decode cX12_init 271 = .ok (.putfield 109, 3) := by decide +kernel
theorem dX12_init_274 : decode cX12_init 274 = .ok (.aload_n 0, 1) := by decide +kernel
theorem dX12_init_275 : decode cX12_init 275 = .ok (.ldc 108, 2) := by decide +kernel
theorem dX12_init_277 : decode cX12_init 277 = .ok (.newarray .int, 2) := by decide +kernel
theorem dX12_init_279 : decode cX12_init 279 = .ok (.putfield 112, 3) := by decide +kernel
theorem dX12_init_282 : decode cX12_init 282 = .ok (.aload_n 0, 1) := by decide +kernel
theorem dX12_init_283 : decode cX12_init 283 = .ok (.ldc 108, 2) := by decide +kernel
theorem dX12_init_285 : decode cX12_init 285 = .ok (.newarray .int, 2) := by decide +kernel
theorem dX12_init_287 : decode cX12_init 287 = .ok (.putfield 115, 3) := by decide +kernel
theorem dX12_init_290 : decode cX12_init 290 = .ok (.aload_n 0, 1) := by decide +kernel
theorem dX12_init_291 : decode cX12_init 291 = .ok (.ldc 108, 2) := by decide +kernel
theorem dX12_init_293 : decode cX12_init 293 = .ok (.newarray .int, 2) := by decide +kernel
theorem dX12_init_295 : decode cX12_init 295 = .ok (.putfield 118, 3) := by decide +kernel
theorem dX12_init_298 : decode cX12_init 298 = .ok (.aload_n 0, 1) := by decide +kernel
theorem dX12_init_299 : decode cX12_init 299 = .ok (.ldc 108, 2) := by decide +kernel
theorem dX12_init_301 : decode cX12_init 301 = .ok (.newarray .int, 2) := by decide +kernel
theorem dX12_init_303 : decode cX12_init 303 = .ok (.putfield 121, 3) := by decide +kernel
theorem dX12_init_306 : decode cX12_init 306 = .ok (.aload_n 0, 1) := by decide +kernel
theorem dX12_init_307 : decode cX12_init 307 = .ok (.sipush 4096, 3) := by decide +kernel
theorem dX12_init_310 : decode cX12_init 310 = .ok (.newarray .int, 2) := by decide +kernel
theorem dX12_init_312 : decode cX12_init 312 = .ok (.putfield 124, 3) := by decide +kernel
theorem dX12_init_315 : decode cX12_init 315 = .ok (.aload_n 0, 1) := by decide +kernel
theorem dX12_init_316 : decode cX12_init 316 = .ok (.sipush 258, 3) := by decide +kernel
theorem dX12_init_319 : decode cX12_init 319 = .ok (.newarray .int, 2) := by decide +kernel
theorem dX12_init_321 : decode cX12_init 321 = .ok (.putfield 127, 3) := by decide +kernel
theorem dX12_init_324 : decode cX12_init 324 = .ok (.aload_n 0, 1) := by decide +kernel
theorem dX12_init_325 : decode cX12_init 325 = .ok (.sipush 430, 3) := by decide +kernel
theorem dX12_init_328 : decode cX12_init 328 = .ok (.newarray .int, 2) := by decide +kernel
theorem dX12_init_330 : decode cX12_init 330 = .ok (.putfield 130, 3) := by decide +kernel
theorem dX12_init_333 : decode cX12_init 333 = .ok (.aload_n 0, 1) := by decide +kernel
theorem dX12_init_334 : decode cX12_init 334 = .ok (.sipush 430, 3) := by decide +kernel
theorem dX12_init_337 : decode cX12_init 337 = .ok (.newarray .int, 2) := by decide +kernel
theorem dX12_init_339 : decode cX12_init 339 = .ok (.putfield 133, 3) := by decide +kernel
theorem dX12_init_342 : decode cX12_init 342 = .ok (.aload_n 0, 1) := by decide +kernel
theorem dX12_init_343 : decode cX12_init 343 = .ok (.sipush 430, 3) := by decide +kernel
theorem dX12_init_346 : decode cX12_init 346 = .ok (.newarray .int, 2) := by decide +kernel
theorem dX12_init_348 : decode cX12_init 348 = .ok (.putfield 136, 3) := by decide +kernel
theorem dX12_init_351 : decode cX12_init 351 = .ok (.aload_n 0, 1) := by decide +kernel
theorem dX12_init_352 : decode cX12_init 352 = .ok (.bipush 40, 2) := by decide +kernel
theorem dX12_init_354 : decode cX12_init 354 = .ok (.newarray .int, 2) := by decide +kernel
theorem dX12_init_356 : decode cX12_init 356 = .ok (.putfield 139, 3) := by decide +kernel
theorem dX12_init_359 : decode cX12_init 359 = .ok (.aload_n 0, 1) := by decide +kernel
theorem dX12_init_360 : decode cX12_init 360 = .ok (.bipush 40, 2) := by decide +kernel
theorem dX12_init_362 : decode cX12_init 362 = .ok (.newarray .int, 2) := by decide +kernel
theorem dX12_init_364 : decode cX12_init 364 = .ok (.putfield 142, 3) := by decide +kernel
theorem dX12_init_367 : decode cX12_init 367 = .ok (.aload_n 0, 1) := by decide +kernel
theorem dX12_init_368 : decode cX12_init 368 = .ok (.bipush 60, 2) := by decide +kernel
theorem dX12_init_370 : decode cX12_init 370 = .ok (.newarray .int, 2) := by decide +kernel
theorem dX12_init_372 : decode cX12_init 372 = .ok (.putfield 145, 3) := by decide +kernel
theorem dX12_init_375 : decode cX12_init 375 = .ok (.aload_n 0, 1) := by decide +kernel
theorem dX12_init_376 : decode cX12_init 376 = .ok (.bipush 6, 2) := by decide +kernel
theorem dX12_init_378 : decode cX12_init 378 = .ok (.newarray .int, 2) := by decide +kernel
theorem dX12_init_380 : decode cX12_init 380 = .ok (.putfield 148, 3) := by decide +kernel
theorem dX12_init_383 : decode cX12_init 383 = .ok (.aload_n 0, 1) := by decide +kernel
theorem dX12_init_384 : decode cX12_init 384 = .ok (.bipush 6, 2) := by decide +kernel
theorem dX12_init_386 : decode cX12_init 386 = .ok (.newarray .int, 2) := by decide +kernel
theorem dX12_init_388 : decode cX12_init 388 = .ok (.putfield 151, 3) := by decide +kernel
theorem dX12_init_391 : decode cX12_init 391 = .ok (.aload_n 0, 1) := by decide +kernel
theorem dX12_init_392 : decode cX12_init 392 = .ok (.bipush 6, 2) := by decide +kernel
theorem dX12_init_394 : decode cX12_init 394 = .ok (.newarray .int, 2) := by decide +kernel
theorem dX12_init_396 : decode cX12_init 396 = .ok (.putfield 154, 3) := by decide +kernel
theorem dX12_init_399 : decode cX12_init 399 = .ok (.aload_n 0, 1) := by decide +kernel
theorem dX12_init_400 : decode cX12_init 400 = .ok (.bipush 6, 2) := by decide +kernel
theorem dX12_init_402 : decode cX12_init 402 = .ok (.newarray .int, 2) := by decide +kernel
theorem dX12_init_404 : decode cX12_init 404 = .ok (.putfield 157, 3) := by decide +kernel
theorem dX12_init_407 : decode cX12_init 407 = .ok (.aload_n 0, 1) := by decide +kernel
theorem dX12_init_408 : decode cX12_init 408 = .ok (.sipush 200, 3) := by decide +kernel
theorem dX12_init_411 : decode cX12_init 411 = .ok (.newarray .int, 2) := by decide +kernel
theorem dX12_init_413 : decode cX12_init 413 = .ok (.putfield 160, 3) := by decide +kernel
theorem dX12_init_416 : decode cX12_init 416 = .ok (.aload_n 0, 1) := by decide +kernel
theorem dX12_init_417 : decode cX12_init 417 = .ok (.sipush 200, 3) := by decide +kernel
theorem dX12_init_420 : decode cX12_init 420 = .ok (.newarray .int, 2) := by decide +kernel
theorem dX12_init_422 : decode cX12_init 422 = .ok (.putfield 163, 3) := by decide +kernel
theorem dX12_init_425 : decode cX12_init 425 = .ok (.aload_n 0, 1) := by decide +kernel
theorem dX12_init_426 : decode cX12_init 426 = .ok (.sipush 200, 3) := by decide +kernel
theorem dX12_init_429 : decode cX12_init 429 = .ok (.newarray .int, 2) := by decide +kernel
theorem dX12_init_431 : decode cX12_init 431 = .ok (.putfield 166, 3) := by decide +kernel
theorem dX12_init_434 : decode cX12_init 434 = .ok (.aload_n 0, 1) := by decide +kernel
theorem dX12_init_435 : decode cX12_init 435 = .ok (.bipush 24, 2) := by decide +kernel
theorem dX12_init_437 : decode cX12_init 437 = .ok (.newarray .int, 2) := by decide +kernel
theorem dX12_init_439 : decode cX12_init 439 = .ok (.putfield 169, 3) := by decide +kernel
theorem dX12_init_442 : decode cX12_init 442 = .ok (.aload_n 0, 1) := by decide +kernel
theorem dX12_init_443 : decode cX12_init 443 = .ok (.sipush 240, 3) := by decide +kernel
theorem dX12_init_446 : decode cX12_init 446 = .ok (.newarray .int, 2) := by decide +kernel
theorem dX12_init_448 : decode cX12_init 448 = .ok (.putfield 172, 3) := by decide +kernel
theorem dX12_init_451 : decode cX12_init 451 = .ok (.aload_n 0, 1) := by decide +kernel
theorem dX12_init_452 : decode cX12_init 452 = .ok (.sipush 240, 3) := by decide +kernel
theorem dX12_init_455 : decode cX12_init 455 = .ok (.newarray .int, 2) := by decide +kernel
theorem dX12_init_457 : decode cX12_init 457 = .ok (.putfield 175, 3) := by decide +kernel
theorem dX12_init_460 : decode cX12_init 460 = .ok (.aload_n 0, 1) := by decide +kernel
theorem dX12_init_461 : decode cX12_init 461 = .ok (.sipush 240, 3) := by decide +kernel
theorem dX12_init_464 : decode cX12_init 464 = .ok (.newarray .int, 2) := by decide +kernel
theorem dX12_init_466 : decode cX12_init 466 = .ok (.putfield 178, 3) := by decide +kernel
theorem dX12_init_469 : decode cX12_init 469 = .ok (.aload_n 0, 1) := by decide +kernel
theorem dX12_init_470 : decode cX12_init 470 = .ok (.sipush 500, 3) := by decide +kernel
theorem dX12_init_473 : decode cX12_init 473 = .ok (.newarray .int, 2) := by decide +kernel
theorem dX12_init_475 : decode cX12_init 475 = .ok (.putfield 181, 3) := by decide +kernel
