set_option maxRecDepth 20000 in
theorem wsL_law0_r13_inL : ∀ w ∈ wsL_law0_r13, w ∈ lw_tbl := fun w h => mem_rr (big := lw_tbl) wsL_law0_r13 [717, 718, 186, 751, 752, 753, 754, 282, 755, 757, 756, 188, 758, 760, 2, 761, 763, 764, 765, 766, 767, 768, 769, 770] rfl w h
set_option maxRecDepth 20000 in
theorem wsL_law0_r14_inL : ∀ w ∈ wsL_law0_r14, w ∈ lw_tbl := fun w h => mem_rr (big := lw_tbl) wsL_law0_r14 [771, 2085, 2086, 2087, 2088, 1753, 2089, 2090, 2091, 2092, 2093, 2094, 2095, 2097, 79, 2098, 2099, 2101, 80, 2102, 1778, 2081, 2082, 2083] rfl w h
set_option maxRecDepth 20000 in
theorem wsL_law0_r15_inL : ∀ w ∈ wsL_law0_r15, w ∈ lw_tbl := fun w h => mem_rr (big := lw_tbl) wsL_law0_r15 [2084, 772, 773, 774, 775, 776, 777, 778, 301, 779, 780, 781, 784, 785, 786, 787, 302, 788, 790, 3, 791, 2103, 2104, 2105] rfl w h
set_option maxRecDepth 20000 in
theorem wsL_law0_r16_inL : ∀ w ∈ wsL_law0_r16, w ∈ lw_tbl := fun w h => mem_rr (big := lw_tbl) wsL_law0_r16 [2106, 1759, 2107, 2108, 2109, 2110, 2112, 81, 2113, 792, 793, 794, 795, 796, 797, 798, 800, 802, 4, 803, 805, 806, 807, 808] rfl w h
set_option maxRecDepth 20000 in
theorem wsL_law0_r17_inL : ∀ w ∈ wsL_law0_r17, w ∈ lw_tbl := fun w h => mem_rr (big := lw_tbl) wsL_law0_r17 [810, 811, 812, 813, 814, 2114, 2115, 2116, 2117, 2118, 2119, 2120, 2121, 2123, 82, 2124, 815, 816, 817, 818, 819, 820, 821, 306] rfl w h
set_option maxRecDepth 20000 in
theorem wsL_law0_r18_inL : ∀ w ∈ wsL_law0_r18, w ∈ lw_tbl := fun w h => mem_rr (big := lw_tbl) wsL_law0_r18 [823, 824, 825, 826, 307, 827, 828, 829, 830, 313, 831, 832, 833, 834, 835, 836, 837, 838, 839, 2125, 2126, 2127, 2128, 1765] rfl w h
set_option maxRecDepth 20000 in
theorem wsL_law0_r19_inL : ∀ w ∈ wsL_law0_r19, w ∈ lw_tbl := fun w h => mem_rr (big := lw_tbl) wsL_law0_r19 [840, 841, 842, 843, 844, 845, 846, 305, 847, 849, 5, 850, 853, 2129, 2130, 2131, 2132, 2133, 2135, 83, 2136, 2137, 2139, 84] rfl w h
set_option maxRecDepth 20000 in
theorem wsL_law0_r20_inL : ∀ w ∈ wsL_law0_r20, w ∈ lw_tbl := fun w h => mem_rr (big := lw_tbl) wsL_law0_r20 [2140, 2141, 2142, 2143, 854, 855, 856, 857, 858, 859, 860, 249, 312, 861, 863, 6, 864, 865, 2144, 2145, 2146, 2147, 866, 867] rfl w h
set_option maxRecDepth 20000 in
theorem wsL_law0_r21_inL : ∀ w ∈ wsL_law0_r21, w ∈ lw_tbl := fun w h => mem_rr (big := lw_tbl) wsL_law0_r21 [868, 869, 870, 871, 872, 253, 258, 263, 873, 875, 7, 876, 2148, 2149, 2150, 2151, 878, 879, 880, 881, 882, 883, 884, 885] rfl w h
set_option maxRecDepth 20000 in
theorem wsL_law0_r22_inL : ∀ w ∈ wsL_law0_r22, w ∈ lw_tbl := fun w h => mem_rr (big := lw_tbl) wsL_law0_r22 [886, 887, 888, 2152, 2153, 2154, 2155, 889, 890, 891, 892, 893, 894, 895, 907, 897, 899, 8, 900, 310, 901, 902, 903, 904] rfl w h
set_option maxRecDepth 20000 in
theorem wsL_law0_r23_inL : ∀ w ∈ wsL_law0_r23, w ∈ lw_tbl := fun w h => mem_rr (big := lw_tbl) wsL_law0_r23 [227, 909, 910, 911, 912, 913, 914, 189, 915, 916, 917, 918, 919, 920, 947, 922, 951, 953, 957, 924, 927, 931, 935, 939] rfl w h
set_option maxRecDepth 20000 in
theorem wsL_law0_r24_inL : ∀ w ∈ wsL_law0_r24, w ∈ lw_tbl := fun w h => mem_rr (big := lw_tbl) wsL_law0_r24 [943, 945, 991, 992, 993, 994, 229, 230, 995, 997, 9, 998, 999, 1001, 10, 1002, 1003, 1005, 11, 1006, 1051, 1011, 191, 1012] rfl w h
