theorem dX12_isSameType_35 : decode cX12_isSameType 35 = .ok (.lor, 1) := by decide +kernel
theorem dX12_isSameType_36 : decode cX12_isSameType 36 = .ok (.invokevirtual 477, 3) := by decide +kernel
theorem dX12_isSameType_39 : decode cX12_isSameType 39 = .ok (.aload_n 0, 1) := by decide +kernel
theorem dX12_isSameType_40 : decode cX12_isSameType 40 = .ok (.iload 5, 2) := by decide +kernel
theorem dX12_isSameType_42 : decode cX12_isSameType 42 = .ok (.iload_n 2, 1) := by decide +kernel
theorem dX12_isSameType_43 : decode cX12_isSameType 43 = .ok (.invokestatic 291, 3) := by decide +kernel
theorem dX12_isSameType_46 : decode cX12_isSameType 46 = .ok (.ifCond .eq 15, 3) := by decide +kernel
theorem dX12_isSameType_49 : decode cX12_isSameType 49 = .ok (.iload 4, 2) := by decide +kernel
theorem dX12_isSameType_51 : decode cX12_isSameType 51 = .ok (.invokestatic 291, 3) := by decide +kernel
theorem dX12_isSameType_54 : decode cX12_isSameType 54 = .ok (.ifCond .eq 7, 3) := by decide +kernel
theorem dX12_isSameType_57 : decode cX12_isSameType 57 = .ok (.iconst 1, 1) := by decide +kernel
theorem dX12_isSameType_58 : decode cX12_isSameType 58 = .ok (.goto 4, 3) := by decide +kernel
theorem dX12_isSameType_61 : decode cX12_isSameType 61 = .ok (.iconst 0, 1) := by decide +kernel
theorem dX12_isSameType_62 : decode cX12_isSameType 62 = .ok (.iload 5, 2) := by decide +kernel
theorem dX12_isSameType_64 : decode cX12_isSameType 64 = .ok (.ifCond .eq 25, 3) := by decide +kernel
theorem dX12_isSameType_67 : decode cX12_isSameType 67 = .ok (.aload_n 0, 1) := by decide +kernel
theorem dX12_isSameType_68 : decode cX12_isSameType 68 = .ok (.getfield 139, 3) := by decide +kernel
theorem dX12_isSameType_71 : decode cX12_isSameType 71 = .ok (.iload_n 1, 1) := by decide +kernel
theorem dX12_isSameType_72 : decode cX12_isSameType 72 = .ok (.iaload, 1) := by decide +kernel
theorem dX12_isSameType_73 : decode cX12_isSameType 73 = .ok (.ifCond .ne 16, 3) := by decide +kernel
theorem dX12_isSameType_76 : decode cX12_isSameType 76 = .ok (.aload_n 0, 1) := by decide +kernel
theorem dX12_isSameType_77 : decode cX12_isSameType 77 = .ok (.getfield 139, 3) := by decide +kernel
theorem dX12_isSameType_80 : decode cX12_isSameType 80 = .ok (.iload_n 3, 1) := by decide +kernel
theorem dX12_isSameType_81 : decode cX12_isSameType 81 = .ok (.iaload, 1) := by decide +kernel
theorem dX12_isSameType_82 : decode cX12_isSameType 82 = .ok (.ifCond .ne 7, 3) := by decide +kernel
theorem dX12_isSameType_85 : decode cX12_isSameType 85 = .ok (.iconst 1, 1) := by decide +kernel
theorem dX12_isSameType_86 : decode cX12_isSameType 86 = .ok (.goto 4, 3) := by decide +kernel
theorem dX12_isSameType_89 : decode cX12_isSameType 89 = .ok (.iconst 0, 1) := by decide +kernel
theorem dX12_isSameType_90 : decode cX12_isSameType 90 = .ok (.invokevirtual 298, 3) := by decide +kernel
theorem dX12_isSameType_93 : decode cX12_isSameType 93 = .ok (.ifCond .ne 5, 3) := by decide +kernel
theorem dX12_isSameType_96 : decode cX12_isSameType 96 = .ok (.iconst 0, 1) := by decide +kernel
theorem dX12_isSameType_97 : decode cX12_isSameType 97 = .ok (.ireturn, 1) := by decide +kernel
theorem dX12_isSameType_98 : decode cX12_isSameType 98 = .ok (.aload_n 0, 1) := by decide +kernel
theorem dX12_isSameType_99 : decode cX12_isSameType 99 = .ok (.iload_n 1, 1) := by decide +kernel
theorem dX12_isSameType_100 : decode cX12_isSameType 100 = .ok (.iload_n 2, 1) := by decide +kernel
theorem dX12_isSameType_101 : decode cX12_isSameType 101 = .ok (.invokevirtual 413, 3) := by decide +kernel
theorem dX12_isSameType_104 : decode cX12_isSameType 104 = .ok (.ifCond .lt 23, 3) := by decide +kernel
theorem dX12_isSameType_107 : decode cX12_isSameType 107 = .ok (.aload_n 0, 1) := by decide +kernel
theorem dX12_isSameType_108 : decode cX12_isSameType 108 = .ok (.iload_n 1, 1) := by decide +kernel
theorem dX12_isSameType_109 : decode cX12_isSameType 109 = .ok (.iload_n 2, 1) := by decide +kernel
theorem dX12_isSameType_110 : decode cX12_isSameType 110 = .ok (.invokevirtual 413, 3) := by decide +kernel
theorem dX12_isSameType_113 : decode cX12_isSameType 113 = .ok (.aload_n 0, 1) := by decide +kernel
theorem dX12_isSameType_114 : decode cX12_isSameType 114 = .ok (.iload_n 3, 1) := by decide +kernel
theorem dX12_isSameType_115 : decode cX12_isSameType 115 = .ok (.iload 4, 2) := by decide +kernel
theorem dX12_isSameType_117 : decode cX12_isSameType 117 = .ok (.invokevirtual 413, 3) := by decide +kernel
theorem dX12_isSameType_120 : decode cX12_isSameType 120 = .ok (.if_icmp .ne 7, 3) := by decide +kernel
theorem dX12_isSameType_123 : decode cX12_isSameType 123 = .ok (.iconst 1, 1) := by decide +kernel
theorem dX12_isSameType_124 : decode cX12_isSameType 124 = .ok (.goto 4, 3) := by decide +kernel
theorem dX12_isSameType_127 : decode cX12_isSameType 127 = .ok (.iconst 0, 1) := by decide +kernel
theorem dX12_isSameType_128 : decode cX12_isSameType 128 = .ok (.ireturn, 1) := by decide +kernel
set_option maxRecDepth 20000 in
theorem ggX12_valueOf_X12_isValue : GoodIn wsX12_valueOf wsX12_isValue := goodIn_r _ [4, 5, 6, 3, 7] rfl (by decide +kernel)
set_option maxRecDepth 20000 in
theorem gX12_valueOf_X12_isValue : GoodIn wsX12_valueOf (va_wsS RX12 302 yX12_isValue wsX12_isValue) := goodIn_app (goodIn_of _ (by decide +kernel)) ggX12_valueOf_X12_isValue
set_option maxRecDepth 20000 in
theorem ggX12_valueOf_X12_asks : GoodIn wsX12_valueOf wsX12_asks := goodIn_r _ [11, 12, 13, 14, 3, 15, 16, 5, 6, 7, 17, 18, 19, 20, 21, 22, 23, 24, 25, 26, 27, 28, 29, 30, 31, 32, 33, 34, 35, 36, 37, 38, 39, 40, 41, 42, 43, 44, 45, 46, 47, 48, 49, 50, 51, 52, 53, 54, 55, 56, 57, 58, 59, 60, 61, 62, 63, 64, 65, 66, 67, 68, 69, 70, 71, 72, 73, 74, 75, 76, 77, 78, 79, 80, 81, 82, 83, 84, 85, 86, 87, 88, 89, 90, 91, 92, 93, 94, 95, 96, 97, 98, 99, 100, 101, 102, 103, 104, 105, 106, 107, 108, 109, 110, 111, 112, 113, 114, 115, 116, 117, 118, 119, 120, 121, 122, 123, 124, 125, 126, 127, 128, 129, 130, 131, 132, 133, 134, 135, 136, 137, 138, 139, 140, 141, 142, 143, 144, 145, 146, 147, 148, 149, 150, 151, 152, 153, 154, 155, 156, 157, 158, 159, 160, 161, 162, 163, 164, 165, 166, 167, 168, 169, 170, 171, 172, 173, 174, 175, 176, 177, 178, 179, 180, 181, 182, 183, 184, 185, 186, 187, 188, 189, 190, 191, 192, 193, 194, 195, 196, 197, 198, 199, 200, 201, 202, 203, 204, 205, 206, 207, 208, 209, 210, 211, 212, 213, 214, 215, 216, 217, 218, 219, 220, 221, 222, 223, 224, 225, 226, 227, 228, 229, 230, 231, 232, 233, 234, 235, 236, 237, 238, 239, 240, 241, 242, 243, 244, 245, 246, 247, 248, 249, 250, 251, 252, 253, 254, 255, 256, 257, 258, 259, 260, 261, 262, 263, 264, 265, 266, 267, 268, 269, 270, 271, 272, 273, 274, 275, 276, 277, 278, 279, 280, 281, 282, 283, 284, 285, 286, 287, 288, 289, 290, 291, 292, 293, 294, 295, 296, 297, 298, 299, 300, 301, 302, 303, 304, 305, 306, 307, 308, 309, 310, 311, 312, 313, 314, 315, 316, 317, 318, 319, 320, 321, 322, 323, 324, 325, 326, 327, 328, 329, 330, 331, 332, 333, 334, 335, 336, 337, 338, 339, 340, 341, 342, 343, 344, 345, 346, 347, 348, 349, 350, 351, 352, 353, 354, 355, 356, 357, 358, 359, 360, 361] rfl (by decide +kernel)
set_option maxRecDepth 20000 in
theorem gX12_valueOf_X12_asks : GoodIn wsX12_valueOf (wsV RX12 484 RX12 yX12_asks wsX12_asks) := goodIn_app (goodIn_of _ (by decide +kernel)) ggX12_valueOf_X12_asks
theorem dX12_valueOf_0 : decode cX12_valueOf 0 = .ok (.aload_n 0, 1) := by decide +kernel
theorem dX12_valueOf_1 : decode cX12_valueOf 1 = .ok (.iload_n 1, 1) := by decide +kernel
theorem dX12_valueOf_2 : decode cX12_valueOf 2 = .ok (.iload_n 2, 1) := by decide +kernel
theorem dX12_valueOf_3 : decode cX12_valueOf 3 = .ok (.invokestatic 302, 3) := by decide +kernel
theorem dX12_valueOf_6 : decode cX12_valueOf 6 = .ok (.invokevirtual 484, 3) := by decide +kernel
theorem dX12_valueOf_9 : decode cX12_valueOf 9 = .ok (.ifCond .eq 13, 3) := by decide +kernel
theorem dX12_valueOf_12 : decode cX12_valueOf 12 = .ok (.aload_n 0, 1) := by decide +kernel
theorem dX12_valueOf_13 : decode cX12_valueOf 13 = .ok (.iload_n 1, 1) := by decide +kernel
theorem dX12_valueOf_14 : decode cX12_valueOf 14 = .ok (.iload_n 2, 1) := by decide +kernel
theorem dX12_valueOf_15 : decode cX12_valueOf 15 = .ok (.invokevirtual 388, 3) := by decide +kernel
theorem dX12_valueOf_18 : decode cX12_valueOf 18 = .ok (.iconst (-1), 1) := by decide +kernel
theorem dX12_valueOf_19 : decode cX12_valueOf 19 = .ok (.if_icmp .ne 5, 3) := by decide +kernel
theorem dX12_valueOf_22 : decode cX12_valueOf 22 = .ok (.iconst 0, 1) := by decide +kernel
theorem dX12_valueOf_23 : decode cX12_valueOf 23 = .ok (.ireturn, 1) := by decide +kernel
theorem dX12_valueOf_24 : decode cX12_valueOf 24 = .ok (.aload_n 0, 1) := by decide +kernel
theorem dX12_valueOf_25 : decode cX12_valueOf 25 = .ok (.iload_n 1, 1) := by decide +kernel
theorem dX12_valueOf_26 : decode cX12_valueOf 26 = .ok (.iload_n 2, 1) := by decide +kernel
theorem dX12_valueOf_27 : decode cX12_valueOf 27 = .ok (.invokevirtual 398, 3) := by decide +kernel
theorem dX12_valueOf_30 : decode cX12_valueOf 30 = .ok (.ifCond .eq 7, 3) := by decide +kernel
theorem dX12_valueOf_33 : decode cX12_valueOf 33 = .ok (.iconst 1, 1) := by decide +kernel
theorem dX12_valueOf_34 : decode cX12_valueOf 34 = .ok (.goto 4, 3) := by decide +kernel
theorem dX12_valueOf_37 : decode cX12_valueOf 37 = .ok (.iconst 2, 1) := by decide +kernel
theorem dX12_valueOf_38 : decode cX12_valueOf 38 = .ok (.aload_n 0, 1) := by decide +kernel
theorem dX12_valueOf_39 : decode cX12_valueOf 39 = .ok (.iload_n 1, 1) := by decide +kernel
theorem dX12_valueOf_40 : decode cX12_valueOf 40 = .ok (.iload_n 2, 1) := by decide +kernel
theorem dX12_valueOf_41 : decode cX12_valueOf 41 = .ok (.invokevirtual 410, 3) := by decide +kernel
theorem dX12_valueOf_44 : decode cX12_valueOf 44 = .ok (.ifCond .eq 7, 3) := by decide +kernel
theorem dX12_valueOf_47 : decode cX12_valueOf 47 = .ok (.iconst 4, 1) := by decide +kernel
theorem dX12_valueOf_48 : decode cX12_valueOf 48 = .ok (.goto 4, 3) := by decide +kernel
theorem dX12_valueOf_51 : decode cX12_valueOf 51 = .ok (.iconst 0, 1) := by decide +kernel
theorem dX12_valueOf_52 : decode cX12_valueOf 52 = .ok (.iadd, 1) := by decide +kernel
theorem dX12_valueOf_53 : decode cX12_valueOf 53 = .ok (.ireturn, 1) := by decide +kernel
set_option maxRecDepth 20000 in
theorem ggX12_size_X12_isValue : GoodIn wsX12_size wsX12_isValue := goodIn_r _ [5, 6, 7, 4, 8] rfl (by decide +kernel)
set_option maxRecDepth 20000 in
theorem gX12_size_X12_isValue : GoodIn wsX12_size (va_wsS RX12 302 yX12_isValue wsX12_isValue) := goodIn_app (goodIn_of _ (by decide +kernel)) ggX12_size_X12_isValue
set_option maxRecDepth 20000 in
theorem ggX12_size_X12_asks : GoodIn wsX12_size wsX12_asks := goodIn_r _ [12, 13, 14, 15, 4, 16, 17, 6, 7, 8, 18, 19, 20, 21, 22, 23, 24, 25, 26, 27, 28, 29, 30, 31, 32, 33, 34, 35, 36, 37, 38, 39, 40, 41, 42, 43, 44, 45, 46, 1, 47, 48, 49, 50, 51, 52, 53, 54, 55, 56, 57, 58, 59, 60, 61, 62, 63, 64, 65, 66, 67, 68, 69, 70, 71, 72, 73, 74, 75, 76, 77, 78, 79, 80, 81, 82, 83, 84, 85, 86, 87, 88, 89, 90, 91, 92, 93, 94, 95, 96, 97, 98, 99, 100, 101, 102, 103, 104, 105, 106, 107, 108, 109, 110, 111, 112, 113, 114, 115, 116, 117, 118, 119, 120, 121, 122, 123, 124, 125, 126, 127, 128, 129, 130, 131, 132, 133, 134, 135, 136, 137, 138, 139, 140, 141, 142, 143, 144, 145, 146, 147, 148, 149, 150, 151, 152, 153, 154, 155, 156, 157, 158, 159, 160, 161, 162, 163, 164, 165, 166, 167, 168, 169, 170, 171, 172, 173, 174, 175, 176, 177, 178, 179, 180, 181, 182, 183, 184, 185, 186, 187, 188, 189, 190, 191, 192, 193, 194, 195, 196, 197, 198, 199, 200, 201, 202, 203, 204, 205, 206, 207, 208, 209, 210, 211, 212, 213, 214, 215, 216, 217, 218, 219, 220, 221, 222, 223, 224, 225, 226, 227, 228, 229, 230, 231, 232, 233, 234, 235, 236, 237, 238, 239, 240, 241, 242, 243, 244, 245, 246, 247, 248, 249, 250, 251, 252, 253, 254, 255, 256, 257, 258, 259, 260, 261, 262, 263, 264, 265, 266, 267, 268, 269, 270, 271, 272, 273, 274, 275, 276, 277, 278, 279, 280, 281, 282, 283, 284, 285, 286, 287, 288, 289, 290, 291, 292, 293, 294, 295, 296, 297, 298, 299, 300, 301, 302, 303, 304, 305, 306, 307, 308, 309, 310, 311, 312, 313, 314, 315, 316, 317, 318, 319, 320, 321, 322, 323, 324, 325, 326, 327, 328, 329, 330, 331, 332, 333, 334, 335, 336, 337, 338, 339, 340, 341, 342, 343, 344, 345, 346, 347, 348, 349, 350, 351, 352, 353, 354, 355, 356, 357, 358, 359, 360, 361] rfl (by decide +kernel)
set_option maxRecDepth 20000 in
theorem gX12_size_X12_asks : GoodIn wsX12_size (wsV RX12 484 RX12 yX12_asks wsX12_asks) := goodIn_app (goodIn_of _ (by decide +kernel)) ggX12_size_X12_asks
theorem dX12_size_0 : decode cX12_size 0 = .ok (.aload_n 0, 1) := by decide +kernel
theorem dX12_size_1 : decode cX12_size 1 = .ok (.iload_n 1, 1) := by decide +kernel
theorem dX12_size_2 : decode cX12_size 2 = .ok (.iload_n 2, 1) := by decide +kernel
theorem dX12_size_3 : decode cX12_size 3 = .ok (.invokestatic 302, 3) := by decide +kernel
theorem dX12_size_6 : decode cX12_size 6 = .ok (.invokevirtual 484, 3) := by decide +kernel
theorem dX12_size_9 : decode cX12_size 9 = .ok (.ifCond .eq 13, 3) := by decide +kernel
theorem dX12_size_12 : decode cX12_size 12 = .ok (.aload_n 0, 1) := by decide +kernel
theorem dX12_size_13 : decode cX12_size 13 = .ok (.iload_n 1, 1) := by decide +kernel
theorem dX12_size_14 : decode cX12_size 14 = .ok (.iload_n 2, 1) := by decide +kernel
theorem dX12_size_15 : decode cX12_size 15 = .ok (.invokevirtual 388, 3) := by decide +kernel
theorem dX12_size_18 : decode cX12_size 18 = .ok (.iconst (-1), 1) := by decide +kernel
theorem dX12_size_19 : decode cX12_size 19 = .ok (.if_icmp .ne 7, 3) := by decide +kernel
theorem dX12_size_22 : decode cX12_size 22 = .ok (.iconst 0, 1) := by decide +kernel
theorem dX12_size_23 : decode cX12_size 23 = .ok (.goto 14, 3) := by decide +kernel
theorem dX12_size_26 : decode cX12_size 26 = .ok (.aload_n 0, 1) := by decide +kernel
theorem dX12_size_27 : decode cX12_size 27 = .ok (.getfield 84, 3) := by decide +kernel
theorem dX12_size_30 : decode cX12_size 30 = .ok (.aload_n 0, 1) := by decide +kernel
theorem dX12_size_31 : decode cX12_size 31 = .ok (.iload_n 1, 1) := by decide +kernel
theorem dX12_size_32 : decode cX12_size 32 = .ok (.iload_n 2, 1) := by decide +kernel
theorem dX12_size_33 : decode cX12_size 33 = .ok (.invokevirtual 388, 3) := by decide +kernel
theorem dX12_size_36 : decode cX12_size 36 = .ok (.iaload, 1) := by decide +kernel
theorem dX12_size_37 : decode cX12_size 37 = .ok (.ireturn, 1) := by decide +kernel
set_option maxRecDepth 20000 in
theorem ggX12_run_X12_isNode : GoodIn wsX12_run wsX12_isNode := goodIn_r _ [7, 1, 8, 9, 6, 10, 389, 390, 391, 392, 393, 394, 395, 396, 397, 398, 399, 400, 401, 402, 403, 404, 405, 406, 407, 408, 409, 410, 411, 412, 413, 414, 415, 416, 417, 418, 419, 420, 421, 422, 423, 424, 425, 426, 427, 428, 429, 430, 431, 432, 433, 434, 435, 436, 437, 438, 439, 440, 441, 442, 443, 444, 445, 446, 447, 448, 449, 450, 451, 452, 453, 454, 455, 456, 457, 458, 459, 460, 461, 462, 463, 464, 465, 466, 467, 468, 469, 470, 471, 472, 473, 474, 475, 476, 477, 478, 479, 480, 481, 482, 483, 484, 485, 486, 487, 488, 489, 490, 491, 492, 493, 494, 495, 496, 497] rfl (by decide +kernel)
set_option maxRecDepth 20000 in
theorem gX12_run_X12_isNode : GoodIn wsX12_run (wsV RX12 330 RX12 yX12_isNode wsX12_isNode) := goodIn_app (goodIn_of _ (by decide +kernel)) ggX12_run_X12_isNode
set_option maxRecDepth 20000 in
theorem ggX12_run_X12_goes : GoodIn wsX12_run wsX12_goes := goodIn_r _ [14, 15, 389, 390, 391, 392, 393, 394, 395, 396, 397, 398, 399, 400, 401, 402, 403, 404, 405, 406, 407, 408, 409, 410, 411, 412, 413, 414, 415, 416, 417, 418, 419, 420, 421, 422, 423, 424, 425, 426, 427, 428, 429, 430, 431, 432, 433, 434, 435, 436, 437, 438, 439, 440, 441, 442, 443, 444, 445, 446, 447, 448, 449, 450, 451, 452, 453, 454, 455, 456, 457, 458, 459, 460, 461, 462, 463, 464, 465, 466, 467, 468, 469, 470, 471, 472, 473, 474, 475, 476, 477, 478, 479, 480, 481, 482, 483, 484, 485, 486, 487, 488, 489, 490, 491, 492, 493, 494, 495, 496, 497] rfl (by decide +kernel)
set_option maxRecDepth 20000 in
theorem gX12_run_X12_goes : GoodIn wsX12_run (wsV RX12 298 RX12 yX12_goes wsX12_goes) := goodIn_app (goodIn_of _ (by decide +kernel)) ggX12_run_X12_goes
theorem dX12_run_0 : decode cX12_run 0 = .ok (.aload_n 0, 1) := by decide +kernel
theorem dX12_run_1 : decode cX12_run 1 = .ok (.aload_n 0, 1) := by decide +kernel
theorem dX12_run_2 : decode cX12_run 2 = .ok (.iload_n 1, 1) := by decide +kernel
theorem dX12_run_3 : decode cX12_run 3 = .ok (.invokevirtual 330, 3) := by decide +kernel
theorem dX12_run_6 : decode cX12_run 6 = .ok (.iconst 1, 1) := by decide +kernel
theorem dX12_run_7 : decode cX12_run 7 = .ok (.iconst 1, 1) := by decide +kernel
theorem dX12_run_8 : decode cX12_run 8 = .ok (.invokevirtual 298, 3) := by decide +kernel
theorem dX12_run_11 : decode cX12_run 11 = .ok (.ifCond .ne 5, 3) := by decide +kernel
theorem dX12_run_14 : decode cX12_run 14 = .ok (.iconst 0, 1) := by decide +kernel
theorem dX12_run_15 : decode cX12_run 15 = .ok (.ireturn, 1) := by decide +kernel
theorem dX12_run_16 : decode cX12_run 16 = .ok (.aload_n 0, 1) := by decide +kernel
theorem dX12_run_17 : decode cX12_run 17 = .ok (.iload_n 1, 1) := by decide +kernel
theorem dX12_run_18 : decode cX12_run 18 = .ok (.invokevirtual 481, 3) := by decide +kernel
theorem dX12_run_21 : decode cX12_run 21 = .ok (.ifCond .ne 6, 3) := by decide +kernel
theorem dX12_run_24 : decode cX12_run 24 = .ok (.bipush 10, 2) := by decide +kernel
theorem dX12_run_26 : decode cX12_run 26 = .ok (.ireturn, 1) := by decide +kernel
theorem dX12_run_27 : decode cX12_run 27 = .ok (.aload_n 0, 1) := by decide +kernel
theorem dX12_run_28 : decode cX12_run 28 = .ok (.lconst 1, 1) := by decide +kernel
theorem dX12_run_29 : decode cX12_run 29 = .ok (.iload_n 1, 1) := by decide +kernel
theorem dX12_run_30 : decode cX12_run 30 = .ok (.lshl, 1) := by decide +kernel
theorem dX12_run_31 : decode cX12_run 31 = .ok (.invokevirtual 470, 3) := by decide +kernel
theorem dX12_run_34 : decode cX12_run 34 = .ok (.lstore_n 2, 1) := by decide +kernel
theorem dX12_run_35 : decode cX12_run 35 = .ok (.iconst 0, 1) := by decide +kernel
theorem dX12_run_36 : decode cX12_run 36 = .ok (.istore 4, 2) := by decide +kernel
theorem dX12_run_38 : decode cX12_run 38 = .ok (.iload 4, 2) := by decide +kernel
theorem dX12_run_40 : decode cX12_run 40 = .ok (.aload_n 0, 1) := by decide +kernel
theorem dX12_run_41 : decode cX12_run 41 = .ok (.getfield 288, 3) := by decide +kernel
theorem dX12_run_44 : decode cX12_run 44 = .ok (.if_icmp .ge 37, 3) := by decide +kernel
theorem dX12_run_47 : decode cX12_run 47 = .ok (.lload_n 2, 1) := by decide +kernel
theorem dX12_run_48 : decode cX12_run 48 = .ok (.iload 4, 2) := by decide +kernel
theorem dX12_run_50 : decode cX12_run 50 = .ok (.lshr, 1) := by decide +kernel
theorem dX12_run_51 : decode cX12_run 51 = .ok (.lconst 1, 1) := by decide +kernel
theorem dX12_run_52 : decode cX12_run 52 = .ok (.land, 1) := by decide +kernel
theorem dX12_run_53 : decode cX12_run 53 = .ok (.lconst 1, 1) := by decide +kernel
theorem dX12_run_54 : decode cX12_run 54 = .ok (.lcmp, 1) := by decide +kernel
theorem dX12_run_55 : decode cX12_run 55 = .ok (.ifCond .ne 20, 3) := by decide +kernel
theorem dX12_run_58 : decode cX12_run 58 = .ok (.aload_n 0, 1) := by decide +kernel
theorem dX12_run_59 : decode cX12_run 59 = .ok (.getfield 55, 3) := by decide +kernel
theorem dX12_run_62 : decode cX12_run 62 = .ok (.iload 4, 2) := by decide +kernel
theorem dX12_run_64 : decode cX12_run 64 = .ok (.iaload, 1) := by decide +kernel
theorem dX12_run_65 : decode cX12_run 65 = .ok (.iconst 4, 1) := by decide +kernel
theorem dX12_run_66 : decode cX12_run 66 = .ok (.if_icmp .ne 9, 3) := by decide +kernel
theorem dX12_run_69 : decode cX12_run 69 = .ok (.aload_n 0, 1) := by decide +kernel
theorem dX12_run_70 : decode cX12_run 70 = .ok (.iload 4, 2) := by decide +kernel
theorem dX12_run_72 : decode cX12_run 72 = .ok (.invokevirtual 585, 3) := by decide +kernel
theorem dX12_run_75 : decode cX12_run 75 = .ok (.iinc 4 1, 3) := by decide +kernel
theorem dX12_run_78 : decode cX12_run 78 = .ok (.goto (-40), 3) := by decide +kernel
theorem dX12_run_81 : decode cX12_run 81 = .ok (.aload_n 0, 1) := by decide +kernel
theorem dX12_run_82 : decode cX12_run 82 = .ok (.iload_n 1, 1) := by decide +kernel
theorem dX12_run_83 : decode cX12_run 83 = .ok (.invokevirtual 582, 3) := by decide +kernel
theorem dX12_run_86 : decode cX12_run 86 = .ok (.istore 4, 2) := by decide +kernel
theorem dX12_run_88 : decode cX12_run 88 = .ok (.iload 4, 2) := by decide +kernel
theorem dX12_run_90 : decode cX12_run 90 = .ok (.ifCond .ne 8, 3) := by decide +kernel
theorem dX12_run_93 : decode cX12_run 93 = .ok (.aload_n 0, 1) := by decide +kernel
theorem dX12_run_94 : decode cX12_run 94 = .ok (.iload_n 1, 1) := by decide +kernel
theorem dX12_run_95 : decode cX12_run 95 = .ok (.invokevirtual 588, 3) := by decide +kernel
theorem dX12_run_98 : decode cX12_run 98 = .ok (.iload 4, 2) := by decide +kernel
theorem dX12_run_100 : decode cX12_run 100 = .ok (.ireturn, 1) := by decide +kernel
set_option maxRecDepth 20000 in
theorem ggX12_result_X12_isValue : GoodIn wsX12_result wsX12_isValue := goodIn_r _ [10, 11, 12, 9, 13] rfl (by decide +kernel)
set_option maxRecDepth 20000 in
theorem gX12_result_X12_isValue : GoodIn wsX12_result (va_wsS RX12 302 yX12_isValue wsX12_isValue) := goodIn_app (goodIn_of _ (by decide +kernel)) ggX12_result_X12_isValue
set_option maxRecDepth 20000 in
theorem ggX12_result_X12_goes : GoodIn wsX12_result wsX12_goes := goodIn_r _ [17, 18, 19, 20, 21, 22, 23, 24, 25, 26, 27, 28, 29, 30, 31, 32, 33, 34, 35, 36, 37, 38, 39, 40, 41, 42, 43, 44, 45, 46, 47, 48, 49, 50, 51, 52, 53, 54, 55, 56, 57, 58, 59, 60, 61, 62, 63, 64, 65, 66, 67, 68, 69, 70, 71, 72, 73, 74, 75, 76, 77, 78, 79, 80, 81, 82, 83, 84, 85, 86, 87, 88, 89, 90, 91, 92, 93, 94, 95, 96, 97, 98, 99, 100, 101, 102, 103, 104, 105, 106, 107, 108, 109, 110, 111, 112, 113, 114, 115, 116, 117, 118, 119, 120, 121, 122, 123, 124, 125, 126, 127] rfl (by decide +kernel)
set_option maxRecDepth 20000 in
theorem gX12_result_X12_goes : GoodIn wsX12_result (wsV RX12 298 RX12 yX12_goes wsX12_goes) := goodIn_app (goodIn_of _ (by decide +kernel)) ggX12_result_X12_goes
theorem dX12_result_0 : decode cX12_result 0 = .ok (.iload_n 1, 1) := by decide +kernel
theorem dX12_result_1 : decode cX12_result 1 = .ok (.invokestatic 302, 3) := by decide +kernel
theorem dX12_result_4 : decode cX12_result 4 = .ok (.ifCond .eq 35, 3) := by decide +kernel
theorem dX12_result_7 : decode cX12_result 7 = .ok (.aload_n 0, 1) := by decide +kernel
theorem dX12_result_8 : decode cX12_result 8 = .ok (.getfield 591, 3) := by decide +kernel
theorem dX12_result_11 : decode cX12_result 11 = .ok (.ifCond .eq 28, 3) := by decide +kernel
theorem dX12_result_14 : decode cX12_result 14 = .ok (.aload_n 0, 1) := by decide +kernel
theorem dX12_result_15 : decode cX12_result 15 = .ok (.getfield 233, 3) := by decide +kernel
theorem dX12_result_18 : decode cX12_result 18 = .ok (.iload_n 1, 1) := by decide +kernel
theorem dX12_result_19 : decode cX12_result 19 = .ok (.invokestatic 302, 3) := by decide +kernel
theorem dX12_result_22 : decode cX12_result 22 = .ok (.ifCond .eq 7, 3) := by decide +kernel
theorem dX12_result_25 : decode cX12_result 25 = .ok (.iload_n 1, 1) := by decide +kernel
theorem dX12_result_26 : decode cX12_result 26 = .ok (.goto 4, 3) := by decide +kernel
theorem dX12_result_29 : decode cX12_result 29 = .ok (.iconst 0, 1) := by decide +kernel
theorem dX12_result_30 : decode cX12_result 30 = .ok (.iaload, 1) := by decide +kernel
theorem dX12_result_31 : decode cX12_result 31 = .ok (.iconst (-1), 1) := by decide +kernel
theorem dX12_result_32 : decode cX12_result 32 = .ok (.if_icmp .eq 7, 3) := by decide +kernel
theorem dX12_result_35 : decode cX12_result 35 = .ok (.iconst 1, 1) := by decide +kernel
theorem dX12_result_36 : decode cX12_result 36 = .ok (.goto 4, 3) := by decide +kernel
theorem dX12_result_39 : decode cX12_result 39 = .ok (.iconst 0, 1) := by decide +kernel
theorem dX12_result_40 : decode cX12_result 40 = .ok (.istore_n 3, 1) := by decide +kernel
theorem dX12_result_41 : decode cX12_result 41 = .ok (.aload_n 0, 1) := by decide +kernel
theorem dX12_result_42 : decode cX12_result 42 = .ok (.iload_n 1, 1) := by decide +kernel
theorem dX12_result_43 : decode cX12_result 43 = .ok (.invokestatic 302, 3) := by decide +kernel
theorem dX12_result_46 : decode cX12_result 46 = .ok (.iload_n 3, 1) := by decide +kernel
theorem dX12_result_47 : decode cX12_result 47 = .ok (.iload_n 3, 1) := by decide +kernel
theorem dX12_result_48 : decode cX12_result 48 = .ok (.ifCond .eq 39, 3) := by decide +kernel
theorem dX12_result_51 : decode cX12_result 51 = .ok (.iload_n 2, 1) := by decide +kernel
theorem dX12_result_52 : decode cX12_result 52 = .ok (.ifCond .lt 35, 3) := by decide +kernel
theorem dX12_result_55 : decode cX12_result 55 = .ok (.iload_n 2, 1) := by decide +kernel
theorem dX12_result_56 : decode cX12_result 56 = .ok (.i2l, 1) := by decide +kernel
theorem dX12_result_57 : decode cX12_result 57 = .ok (.aload_n 0, 1) := by decide +kernel
theorem dX12_result_58 : decode cX12_result 58 = .ok (.getfield 245, 3) := by decide +kernel
theorem dX12_result_61 : decode cX12_result 61 = .ok (.aload_n 0, 1) := by decide +kernel
theorem dX12_result_62 : decode cX12_result 62 = .ok (.getfield 233, 3) := by decide +kernel
theorem dX12_result_65 : decode cX12_result 65 = .ok (.iload_n 1, 1) := by decide +kernel
theorem dX12_result_66 : decode cX12_result 66 = .ok (.invokestatic 302, 3) := by decide +kernel
theorem dX12_result_69 : decode cX12_result 69 = .ok (.ifCond .eq 7, 3) := by decide +kernel
theorem dX12_result_72 : decode cX12_result 72 = .ok (.iload_n 1, 1) := by decide +kernel
theorem dX12_result_73 : decode cX12_result 73 = .ok (.goto 4, 3) := by decide +kernel
theorem dX12_result_76 : decode cX12_result 76 = .ok (.iconst 0, 1) := by decide +kernel
theorem dX12_result_77 : decode cX12_result 77 = .ok (.iaload, 1) := by decide +kernel
theorem dX12_result_78 : decode cX12_result 78 = .ok (.laload, 1) := by decide +kernel
theorem dX12_result_79 : decode cX12_result 79 = .ok (.lcmp, 1) := by decide +kernel
theorem dX12_result_80 : decode cX12_result 80 = .ok (.ifCond .ge 7, 3) := by decide +kernel
theorem dX12_result_83 : decode cX12_result 83 = .ok (.iconst 1, 1) := by decide +kernel
theorem dX12_result_84 : decode cX12_result 84 = .ok (.goto 4, 3) := by decide +kernel
theorem dX12_result_87 : decode cX12_result 87 = .ok (.iconst 0, 1) := by decide +kernel
theorem dX12_result_88 : decode cX12_result 88 = .ok (.invokevirtual 298, 3) := by decide +kernel
theorem dX12_result_91 : decode cX12_result 91 = .ok (.ifCond .ne 5, 3) := by decide +kernel
theorem dX12_result_94 : decode cX12_result 94 = .ok (.iconst 0, 1) := by decide +kernel
theorem dX12_result_95 : decode cX12_result 95 = .ok (.ireturn, 1) := by decide +kernel
theorem dX12_result_96 : decode cX12_result 96 = .ok (.aload_n 0, 1) := by decide +kernel
theorem dX12_result_97 : decode cX12_result 97 = .ok (.getfield 233, 3) := by decide +kernel
theorem dX12_result_100 : decode cX12_result 100 = .ok (.iload_n 1, 1) := by decide +kernel
theorem dX12_result_101 : decode cX12_result 101 = .ok (.iaload, 1) := by decide +kernel
theorem dX12_result_102 : decode cX12_result 102 = .ok (.istore 4, 2) := by decide +kernel
theorem dX12_result_104 : decode cX12_result 104 = .ok (.iload_n 2, 1) := by decide +kernel
theorem dX12_result_105 : decode cX12_result 105 = .ok (.i2l, 1) := by decide +kernel
theorem dX12_result_106 : decode cX12_result 106 = .ok (.lstore 5, 2) := by decide +kernel
theorem dX12_result_108 : decode cX12_result 108 = .ok (.aload_n 0, 1) := by decide +kernel
theorem dX12_result_109 : decode cX12_result 109 = .ok (.getfield 236, 3) := by decide +kernel
theorem dX12_result_112 : decode cX12_result 112 = .ok (.iload 4, 2) := by decide +kernel
theorem dX12_result_114 : decode cX12_result 114 = .ok (.iaload, 1) := by decide +kernel
theorem dX12_result_115 : decode cX12_result 115 = .ok (.iconst (-1), 1) := by decide +kernel
theorem dX12_result_116 : decode cX12_result 116 = .ok (.if_icmp .eq 81, 3) := by decide +kernel
theorem dX12_result_119 : decode cX12_result 119 = .ok (.lload 5, 2) := by decide +kernel
theorem dX12_result_121 : decode cX12_result 121 = .ok (.aload_n 0, 1) := by decide +kernel
theorem dX12_result_122 : decode cX12_result 122 = .ok (.getfield 245, 3) := by decide +kernel
theorem dX12_result_125 : decode cX12_result 125 = .ok (.aload_n 0, 1) := by decide +kernel
theorem dX12_result_126 : decode cX12_result 126 = .ok (.getfield 236, 3) := by decide +kernel
theorem dX12_result_129 : decode cX12_result 129 = .ok (.iload 4, 2) := by decide +kernel
theorem dX12_result_131 : decode cX12_result 131 = .ok (.iaload, 1) := by decide +kernel
theorem dX12_result_132 : decode cX12_result 132 = .ok (.laload, 1) := by decide +kernel
theorem dX12_result_133 : decode cX12_result 133 = .ok (.lcmp, 1) := by decide +kernel
theorem dX12_result_134 : decode cX12_result 134 = .ok (.ifCond .ge 7, 3) := by decide +kernel
theorem dX12_result_137 : decode cX12_result 137 = .ok (.iconst 1, 1) := by decide +kernel
theorem dX12_result_138 : decode cX12_result 138 = .ok (.goto 4, 3) := by decide +kernel
theorem dX12_result_141 : decode cX12_result 141 = .ok (.iconst 0, 1) := by decide +kernel
theorem dX12_result_142 : decode cX12_result 142 = .ok (.istore 7, 2) := by decide +kernel
theorem dX12_result_144 : decode cX12_result 144 = .ok (.lload 5, 2) := by decide +kernel
theorem dX12_result_146 : decode cX12_result 146 = .ok (.iload 7, 2) := by decide +kernel
theorem dX12_result_148 : decode cX12_result 148 = .ok (.ifCond .eq 7, 3) := by decide +kernel
theorem dX12_result_151 : decode cX12_result 151 = .ok (.lconst 0, 1) := by decide +kernel
theorem dX12_result_152 : decode cX12_result 152 = .ok (.goto 15, 3) := by decide +kernel
theorem dX12_result_155 : decode cX12_result 155 = .ok (.aload_n 0, 1) := by decide +kernel
theorem dX12_result_156 : decode cX12_result 156 = .ok (.getfield 245, 3) := by decide +kernel
theorem dX12_result_159 : decode cX12_result 159 = .ok (.aload_n 0, 1) := by decide +kernel
theorem dX12_result_160 : decode cX12_result 160 = .ok (.getfield 236, 3) := by decide +kernel
theorem dX12_result_163 : decode cX12_result 163 = .ok (.iload 4, 2) := by decide +kernel
theorem dX12_result_165 : decode cX12_result 165 = .ok (.iaload, 1) := by decide +kernel
theorem dX12_result_166 : decode cX12_result 166 = .ok (.laload, 1) := by decide +kernel
theorem dX12_result_167 : decode cX12_result 167 = .ok (.lsub, 1) := by decide +kernel
theorem dX12_result_168 : decode cX12_result 168 = .ok (.lstore 5, 2) := by decide +kernel
theorem dX12_result_170 : decode cX12_result 170 = .ok (.iload 7, 2) := by decide +kernel
theorem dX12_result_172 : decode cX12_result 172 = .ok (.ifCond .eq 13, 3) := by decide +kernel
theorem dX12_result_175 : decode cX12_result 175 = .ok (.aload_n 0, 1) := by decide +kernel
theorem dX12_result_176 : decode cX12_result 176 = .ok (.getfield 236, 3) := by decide +kernel
theorem dX12_result_179 : decode cX12_result 179 = .ok (.iload 4, 2) := by decide +kernel
theorem dX12_result_181 : decode cX12_result 181 = .ok (.iaload, 1) := by decide +kernel
theorem dX12_result_182 : decode cX12_result 182 = .ok (.goto 10, 3) := by decide +kernel
theorem dX12_result_185 : decode cX12_result 185 = .ok (.aload_n 0, 1) := by decide +kernel
theorem dX12_result_186 : decode cX12_result 186 = .ok (.getfield 239, 3) := by decide +kernel
theorem dX12_result_189 : decode cX12_result 189 = .ok (.iload 4, 2) := by decide +kernel
theorem dX12_result_191 : decode cX12_result 191 = .ok (.iaload, 1) := by decide +kernel
theorem dX12_result_192 : decode cX12_result 192 = .ok (.istore 4, 2) := by decide +kernel
theorem dX12_result_194 : decode cX12_result 194 = .ok (.goto (-86), 3) := by decide +kernel
theorem dX12_result_197 : decode cX12_result 197 = .ok (.aload_n 0, 1) := by decide +kernel
theorem dX12_result_198 : decode cX12_result 198 = .ok (.getfield 242, 3) := by decide +kernel
theorem dX12_result_201 : decode cX12_result 201 = .ok (.iload 4, 2) := by decide +kernel
theorem dX12_result_203 : decode cX12_result 203 = .ok (.iaload, 1) := by decide +kernel
theorem dX12_result_204 : decode cX12_result 204 = .ok (.ireturn, 1) := by decide +kernel
set_option maxRecDepth 20000 in
theorem ggX12_logged_X12_tells : GoodIn wsX12_logged wsX12_tells := goodIn_r _ [6, 7, 8, 9, 10, 11, 12, 13, 14, 15, 16, 17, 18, 19, 20, 21, 22, 23, 24, 25, 26, 27, 28, 29, 30, 31, 32, 33, 34, 35, 36, 37, 38, 39, 40, 41, 42, 43, 44, 45, 46, 47, 48, 49, 50, 51, 52, 53, 54, 55, 56, 57, 58, 59, 60, 61, 62, 63, 64, 65, 66, 67, 68, 69, 70, 71, 72, 73, 74, 75, 76, 77, 78, 79, 80, 81, 82, 83, 84, 85, 86, 87, 88, 89, 90, 91, 92, 93, 94, 95, 96, 97, 98, 99, 100, 101, 102, 103, 104, 105, 106, 107, 108, 109, 110, 111, 112, 113, 114, 115, 116] rfl (by decide +kernel)
set_option maxRecDepth 20000 in
theorem gX12_logged_X12_tells : GoodIn wsX12_logged (wsV RX12 604 RX12 yX12_tells wsX12_tells) := goodIn_app (goodIn_of _ (by decide +kernel)) ggX12_logged_X12_tells
theorem dX12_logged_0 : decode cX12_logged 0 = .ok (.aload_n 0, 1) := by decide +kernel
theorem dX12_logged_1 : decode cX12_logged 1 = .ok (.aload_n 0, 1) := by decide +kernel
theorem dX12_logged_2 : decode cX12_logged 2 = .ok (.getfield 595, 3) := by decide +kernel
theorem dX12_logged_5 : decode cX12_logged 5 = .ok (.invokevirtual 604, 3) := by decide +kernel
theorem dX12_logged_8 : decode cX12_logged 8 = .ok (.ireturn, 1) := by decide +kernel
set_option maxRecDepth 20000 in
theorem ggX12_log_X12_in : GoodIn wsX12_log wsX12_in := goodIn_r _ [6] rfl (by decide +kernel)
set_option maxRecDepth 20000 in
theorem gX12_log_X12_in : GoodIn wsX12_log (va_wsS RX12 278 yX12_in wsX12_in) := goodIn_app (goodIn_of _ (by decide +kernel)) ggX12_log_X12_in
set_option maxRecDepth 20000 in
theorem ggX12_log_X12_goes : GoodIn wsX12_log wsX12_goes := goodIn_r _ [10, 11, 12, 13, 14, 15, 16, 17, 18, 19, 20, 21, 22, 23, 24, 25, 26, 27, 28, 29, 30, 31, 32, 33, 34, 35, 36, 37, 38, 39, 40, 41, 42, 43, 44, 45, 46, 47, 48, 49, 50, 51, 52, 53, 54, 55, 56, 57, 58, 59, 60, 61, 62, 63, 64, 65, 66, 67, 68, 69, 70, 71, 72, 73, 74, 75, 76, 77, 78, 79, 80, 81, 82, 83, 84, 85, 86, 87, 88, 89, 90, 91, 92, 93, 94, 95, 96, 97, 98, 99, 100, 101, 102, 103, 104, 105, 106, 107, 108, 109, 110, 111, 112, 113, 114, 115, 116, 117, 118, 119, 120] rfl (by decide +kernel)
set_option maxRecDepth 20000 in
theorem gX12_log_X12_goes : GoodIn wsX12_log (wsV RX12 298 RX12 yX12_goes wsX12_goes) := goodIn_app (goodIn_of _ (by decide +kernel)) ggX12_log_X12_goes
theorem dX12_log_0 : decode cX12_log 0 = .ok (.aload_n 0, 1) := by decide +kernel
theorem dX12_log_1 : decode cX12_log 1 = .ok (.iload_n 1, 1) := by decide +kernel
theorem dX12_log_2 : decode cX12_log 2 = .ok (.iconst 0, 1) := by decide +kernel
theorem dX12_log_3 : decode cX12_log 3 = .ok (.aload_n 0, 1) := by decide +kernel
theorem dX12_log_4 : decode cX12_log 4 = .ok (.getfield 595, 3) := by decide +kernel
theorem dX12_log_7 : decode cX12_log 7 = .ok (.iconst 1, 1) := by decide +kernel
theorem dX12_log_8 : decode cX12_log 8 = .ok (.isub, 1) := by decide +kernel
theorem dX12_log_9 : decode cX12_log 9 = .ok (.invokestatic 278, 3) := by decide +kernel
theorem dX12_log_12 : decode cX12_log 12 = .ok (.iconst 1, 1) := by decide +kernel
theorem dX12_log_13 : decode cX12_log 13 = .ok (.iconst 1, 1) := by decide +kernel
theorem dX12_log_14 : decode cX12_log 14 = .ok (.invokevirtual 298, 3) := by decide +kernel
theorem dX12_log_17 : decode cX12_log 17 = .ok (.ifCond .eq 12, 3) := by decide +kernel
theorem dX12_log_20 : decode cX12_log 20 = .ok (.aload_n 0, 1) := by decide +kernel
theorem dX12_log_21 : decode cX12_log 21 = .ok (.getfield 248, 3) := by decide +kernel
theorem dX12_log_24 : decode cX12_log 24 = .ok (.iload_n 1, 1) := by decide +kernel
theorem dX12_log_25 : decode cX12_log 25 = .ok (.iaload, 1) := by decide +kernel
theorem dX12_log_26 : decode cX12_log 26 = .ok (.goto 4, 3) := by decide +kernel
theorem dX12_log_29 : decode cX12_log 29 = .ok (.iconst 0, 1) := by decide +kernel
theorem dX12_log_30 : decode cX12_log 30 = .ok (.ireturn, 1) := by decide +kernel
set_option maxRecDepth 20000 in
theorem ggX12_total_X12_tells : GoodIn wsX12_total wsX12_tells := goodIn_r _ [6, 7, 8, 9, 10, 11, 12, 13, 14, 15, 16, 17, 18, 19, 20, 21, 22, 23, 24, 25, 26, 27, 28, 29, 30, 31, 32, 33, 34, 35, 36, 37, 38, 39, 40, 41, 42, 43, 44, 45, 46, 47, 48, 49, 50, 51, 52, 53, 54, 55, 56, 57, 58, 59, 60, 61, 62, 63, 64, 65, 66, 67, 68, 69, 70, 71, 72, 73, 74, 75, 76, 77, 78, 79, 80, 81, 82, 83, 84, 85, 86, 87, 88, 89, 90, 91, 92, 93, 94, 95, 96, 97, 98, 99, 100, 101, 102, 103, 104, 105, 106, 107, 108, 109, 110, 111, 112, 113, 114, 115, 116] rfl (by decide +kernel)
set_option maxRecDepth 20000 in
theorem gX12_total_X12_tells : GoodIn wsX12_total (wsV RX12 604 RX12 yX12_tells wsX12_tells) := goodIn_app (goodIn_of _ (by decide +kernel)) ggX12_total_X12_tells
theorem dX12_total_0 : decode cX12_total 0 = .ok (.aload_n 0, 1) := by decide +kernel
theorem dX12_total_1 : decode cX12_total 1 = .ok (.aload_n 0, 1) := by decide +kernel
theorem dX12_total_2 : decode cX12_total 2 = .ok (.getfield 598, 3) := by decide +kernel
theorem dX12_total_5 : decode cX12_total 5 = .ok (.invokevirtual 604, 3) := by decide +kernel
theorem dX12_total_8 : decode cX12_total 8 = .ok (.ireturn, 1) := by decide +kernel
set_option maxRecDepth 20000 in
theorem ggX12_dropped_X12_tells : GoodIn wsX12_dropped wsX12_tells := goodIn_r _ [6, 7, 8, 9, 10, 11, 12, 13, 14, 15, 16, 17, 18, 19, 20, 21, 22, 23, 24, 25, 26, 27, 28, 29, 30, 31, 32, 33, 34, 35, 36, 37, 38, 39, 40, 41, 42, 43, 44, 45, 46, 47, 48, 49, 50, 51, 52, 53, 54, 55, 56, 57, 58, 59, 60, 61, 62, 63, 64, 65, 66, 67, 68, 69, 70, 71, 72, 73, 74, 75, 76, 77, 78, 79, 80, 81, 82, 83, 84, 85, 86, 87, 88, 89, 90, 91, 92, 93, 94, 95, 96, 97, 98, 99, 100, 101, 102, 103, 104, 105, 106, 107, 108, 109, 110, 111, 112, 113, 114, 115, 116] rfl (by decide +kernel)
set_option maxRecDepth 20000 in
theorem gX12_dropped_X12_tells : GoodIn wsX12_dropped (wsV RX12 604 RX12 yX12_tells wsX12_tells) := goodIn_app (goodIn_of _ (by decide +kernel)) ggX12_dropped_X12_tells
theorem dX12_dropped_0 : decode cX12_dropped 0 = .ok (.aload_n 0, 1) := by decide +kernel
theorem dX12_dropped_1 : decode cX12_dropped 1 = .ok (.aload_n 0, 1) := by decide +kernel
theorem dX12_dropped_2 : decode cX12_dropped 2 = .ok (.getfield 601, 3) := by decide +kernel
theorem dX12_dropped_5 : decode cX12_dropped 5 = .ok (.invokevirtual 604, 3) := by decide +kernel
theorem dX12_dropped_8 : decode cX12_dropped 8 = .ok (.ireturn, 1) := by decide +kernel
set_option maxRecDepth 20000 in
theorem ggX12_build_X12_isNode : GoodIn wsX12_build wsX12_isNode := goodIn_r _ [6, 1, 7, 8, 5, 9, 289, 290, 291, 292, 293, 294, 295, 296, 297, 298, 299, 300, 301, 302, 303, 304, 305, 306, 307, 308, 309, 310, 311, 312, 313, 314, 315, 316, 317, 318, 319, 320, 321, 322, 323, 324, 325, 326, 327, 328, 329, 330, 331, 332, 333, 334, 335, 336, 337, 338, 339, 340, 341, 342, 343, 344, 345, 346, 347, 348, 349, 350, 351, 352, 353, 354, 355, 356, 357, 358, 359, 360, 361, 362, 363, 364, 365, 366, 367, 368, 369, 370, 371, 372, 373, 374, 375, 376, 377, 378, 379, 380, 381, 382, 383, 384, 385, 386, 387, 388, 389, 390, 391, 392, 393, 394, 395, 396, 397] rfl (by decide +kernel)
set_option maxRecDepth 20000 in
theorem gX12_build_X12_isNode : GoodIn wsX12_build (wsV RX12 330 RX12 yX12_isNode wsX12_isNode) := goodIn_app (goodIn_of _ (by decide +kernel)) ggX12_build_X12_isNode
set_option maxRecDepth 20000 in
theorem ggX12_build_X12_goes : GoodIn wsX12_build wsX12_goes := goodIn_r _ [13, 14, 289, 290, 291, 292, 293, 294, 295, 296, 297, 298, 299, 300, 301, 302, 303, 304, 305, 306, 307, 308, 309, 310, 311, 312, 313, 314, 315, 316, 317, 318, 319, 320, 321, 322, 323, 324, 325, 326, 327, 328, 329, 330, 331, 332, 333, 334, 335, 336, 337, 338, 339, 340, 341, 342, 343, 344, 345, 346, 347, 348, 349, 350, 351, 352, 353, 354, 355, 356, 357, 358, 359, 360, 361, 362, 363, 364, 365, 366, 367, 368, 369, 370, 371, 372, 373, 374, 375, 376, 377, 378, 379, 380, 381, 382, 383, 384, 385, 386, 387, 388, 389, 390, 391, 392, 393, 394, 395, 396, 397] rfl (by decide +kernel)
set_option maxRecDepth 20000 in
theorem gX12_build_X12_goes : GoodIn wsX12_build (wsV RX12 298 RX12 yX12_goes wsX12_goes) := goodIn_app (goodIn_of _ (by decide +kernel)) ggX12_build_X12_goes
theorem dX12_build_0 : decode cX12_build 0 = .ok (.aload_n 0, 1) := by decide +kernel
theorem dX12_build_1 : decode cX12_build 1 = .ok (.aload_n 0, 1) := by decide +kernel
theorem dX12_build_2 : decode cX12_build 2 = .ok (.iload_n 1, 1) := by decide +kernel
theorem dX12_build_3 : decode cX12_build 3 = .ok (.invokevirtual 330, 3) := by decide +kernel
theorem dX12_build_6 : decode cX12_build 6 = .ok (.iconst 1, 1) := by decide +kernel
theorem dX12_build_7 : decode cX12_build 7 = .ok (.iconst 1, 1) := by decide +kernel
theorem dX12_build_8 : decode cX12_build 8 = .ok (.invokevirtual 298, 3) := by decide +kernel
theorem dX12_build_11 : decode cX12_build 11 = .ok (.ifCond .ne 5, 3) := by decide +kernel
theorem dX12_build_14 : decode cX12_build 14 = .ok (.iconst 0, 1) := by decide +kernel
theorem dX12_build_15 : decode cX12_build 15 = .ok (.ireturn, 1) := by decide +kernel
theorem dX12_build_16 : decode cX12_build 16 = .ok (.aload_n 0, 1) := by decide +kernel
theorem dX12_build_17 : decode cX12_build 17 = .ok (.lconst 1, 1) := by decide +kernel
theorem dX12_build_18 : decode cX12_build 18 = .ok (.iload_n 1, 1) := by decide +kernel
theorem dX12_build_19 : decode cX12_build 19 = .ok (.lshl, 1) := by decide +kernel
theorem dX12_build_20 : decode cX12_build 20 = .ok (.invokevirtual 477, 3) := by decide +kernel
theorem dX12_build_23 : decode cX12_build 23 = .ok (.aload_n 0, 1) := by decide +kernel
theorem dX12_build_24 : decode cX12_build 24 = .ok (.lconst 1, 1) := by decide +kernel
theorem dX12_build_25 : decode cX12_build 25 = .ok (.iload_n 1, 1) := by decide +kernel
theorem dX12_build_26 : decode cX12_build 26 = .ok (.lshl, 1) := by decide +kernel
theorem dX12_build_27 : decode cX12_build 27 = .ok (.invokevirtual 470, 3) := by decide +kernel
theorem dX12_build_30 : decode cX12_build 30 = .ok (.lstore_n 2, 1) := by decide +kernel
theorem dX12_build_31 : decode cX12_build 31 = .ok (.iconst 0, 1) := by decide +kernel
theorem dX12_build_32 : decode cX12_build 32 = .ok (.istore 4, 2) := by decide +kernel
theorem dX12_build_34 : decode cX12_build 34 = .ok (.iconst 0, 1) := by decide +kernel
theorem dX12_build_35 : decode cX12_build 35 = .ok (.istore 5, 2) := by decide +kernel
theorem dX12_build_37 : decode cX12_build 37 = .ok (.iload 5, 2) := by decide +kernel
theorem dX12_build_39 : decode cX12_build 39 = .ok (.aload_n 0, 1) := by decide +kernel
theorem dX12_build_40 : decode cX12_build 40 = .ok (.getfield 288, 3) := by decide +kernel
theorem dX12_build_43 : decode cX12_build 43 = .ok (.if_icmp .ge 39, 3) := by decide +kernel
theorem dX12_build_46 : decode cX12_build 46 = .ok (.iload 4, 2) := by decide +kernel
theorem dX12_build_48 : decode cX12_build 48 = .ok (.lload_n 2, 1) := by decide +kernel
theorem dX12_build_49 : decode cX12_build 49 = .ok (.iload 5, 2) := by decide +kernel
theorem dX12_build_51 : decode cX12_build 51 = .ok (.lshr, 1) := by decide +kernel
theorem dX12_build_52 : decode cX12_build 52 = .ok (.lconst 1, 1) := by decide +kernel
theorem dX12_build_53 : decode cX12_build 53 = .ok (.land, 1) := by decide +kernel
theorem dX12_build_54 : decode cX12_build 54 = .ok (.lconst 1, 1) := by decide +kernel
theorem dX12_build_55 : decode cX12_build 55 = .ok (.lcmp, 1) := by decide +kernel
theorem dX12_build_56 : decode cX12_build 56 = .ok (.ifCond .ne 16, 3) := by decide +kernel
theorem dX12_build_59 : decode cX12_build 59 = .ok (.aload_n 0, 1) := by decide +kernel
theorem dX12_build_60 : decode cX12_build 60 = .ok (.iload 5, 2) := by decide +kernel
theorem dX12_build_62 : decode cX12_build 62 = .ok (.invokevirtual 638, 3) := by decide +kernel
theorem dX12_build_65 : decode cX12_build 65 = .ok (.ifCond .eq 7, 3) := by decide +kernel
theorem dX12_build_68 : decode cX12_build 68 = .ok (.iconst 1, 1) := by decide +kernel
theorem dX12_build_69 : decode cX12_build 69 = .ok (.goto 4, 3) := by decide +kernel
theorem dX12_build_72 : decode cX12_build 72 = .ok (.iconst 0, 1) := by decide +kernel
theorem dX12_build_73 : decode cX12_build 73 = .ok (.iadd, 1) := by decide +kernel
theorem dX12_build_74 : decode cX12_build 74 = .ok (.istore 4, 2) := by decide +kernel
theorem dX12_build_76 : decode cX12_build 76 = .ok (.iinc 5 1, 3) := by decide +kernel
theorem dX12_build_79 : decode cX12_build 79 = .ok (.goto (-42), 3) := by decide +kernel
theorem dX12_build_82 : decode cX12_build 82 = .ok (.iload 4, 2) := by decide +kernel
theorem dX12_build_84 : decode cX12_build 84 = .ok (.ireturn, 1) := by decide +kernel
set_option maxRecDepth 20000 in
theorem ggX12_compiled_X12_isNode : GoodIn wsX12_compiled wsX12_isNode := goodIn_r _ [6, 7, 8, 9, 5, 10, 16, 17, 18, 19, 20, 21, 22, 23, 24, 25, 26, 27, 28, 29, 30, 31, 32, 33, 34, 35, 36, 37, 38, 39, 40, 41, 42, 43, 44, 45, 46, 47, 48, 49, 50, 51, 52, 53, 54, 55, 56, 57, 58, 59, 60, 61, 62, 63, 64, 65, 66, 67, 68, 69, 70, 71, 72, 73, 74, 75, 76, 77, 78, 79, 80, 81, 82, 83, 84, 85, 86, 87, 88, 89, 90, 91, 92, 93, 94, 95, 96, 97, 98, 99, 100, 101, 102, 103, 104, 105, 106, 107, 108, 109, 110, 111, 112, 113, 114, 115, 116, 117, 118, 119, 120, 121, 122, 123, 124] rfl (by decide +kernel)
set_option maxRecDepth 20000 in
theorem gX12_compiled_X12_isNode : GoodIn wsX12_compiled (wsV RX12 330 RX12 yX12_isNode wsX12_isNode) := goodIn_app (goodIn_of _ (by decide +kernel)) ggX12_compiled_X12_isNode
set_option maxRecDepth 20000 in
theorem ggX12_compiled_X12_goes : GoodIn wsX12_compiled wsX12_goes := goodIn_r _ [14, 15, 16, 17, 18, 19, 20, 21, 22, 23, 24, 25, 26, 27, 28, 29, 30, 31, 32, 33, 34, 35, 36, 37, 38, 39, 40, 41, 42, 43, 44, 45, 46, 47, 48, 49, 50, 51, 52, 53, 54, 55, 56, 57, 58, 59, 60, 61, 62, 63, 64, 65, 66, 67, 68, 69, 70, 71, 72, 73, 74, 75, 76, 77, 78, 79, 80, 81, 82, 83, 84, 85, 86, 87, 88, 89, 90, 91, 92, 93, 94, 95, 96, 97, 98, 99, 100, 101, 102, 103, 104, 105, 106, 107, 108, 109, 110, 111, 112, 113, 114, 115, 116, 117, 118, 119, 120, 121, 122, 123, 124] rfl (by decide +kernel)
set_option maxRecDepth 20000 in
theorem gX12_compiled_X12_goes : GoodIn wsX12_compiled (wsV RX12 298 RX12 yX12_goes wsX12_goes) := goodIn_app (goodIn_of _ (by decide +kernel)) ggX12_compiled_X12_goes
theorem dX12_compiled_0 : decode cX12_compiled 0 = .ok (.aload_n 0, 1) := by decide +kernel
theorem dX12_compiled_1 : decode cX12_compiled 1 = .ok (.aload_n 0, 1) := by decide +kernel
theorem dX12_compiled_2 : decode cX12_compiled 2 = .ok (.iload_n 1, 1) := by decide +kernel
theorem dX12_compiled_3 : decode cX12_compiled 3 = .ok (.invokevirtual 330, 3) := by decide +kernel
theorem dX12_compiled_6 : decode cX12_compiled 6 = .ok (.iconst 1, 1) := by decide +kernel
theorem dX12_compiled_7 : decode cX12_compiled 7 = .ok (.iconst 1, 1) := by decide +kernel
theorem dX12_compiled_8 : decode cX12_compiled 8 = .ok (.invokevirtual 298, 3) := by decide +kernel
theorem dX12_compiled_11 : decode cX12_compiled 11 = .ok (.ifCond .eq 12, 3) := by decide +kernel
theorem dX12_compiled_14 : decode cX12_compiled 14 = .ok (.aload_n 0, 1) := by decide +kernel
theorem dX12_compiled_15 : decode cX12_compiled 15 = .ok (.getfield 268, 3) := by decide +kernel
theorem dX12_compiled_18 : decode cX12_compiled 18 = .ok (.iload_n 1, 1) := by decide +kernel
theorem dX12_compiled_19 : decode cX12_compiled 19 = .ok (.iaload, 1) := by decide +kernel
theorem dX12_compiled_20 : decode cX12_compiled 20 = .ok (.goto 4, 3) := by decide +kernel
theorem dX12_compiled_23 : decode cX12_compiled 23 = .ok (.iconst 0, 1) := by decide +kernel
theorem dX12_compiled_24 : decode cX12_compiled 24 = .ok (.ireturn, 1) := by decide +kernel
set_option maxRecDepth 20000 in
theorem ggX12_isFresh_X12_isNode : GoodIn wsX12_isFresh wsX12_isNode := goodIn_r _ [9, 10, 11, 12, 8, 13, 263, 264, 265, 266, 267, 268, 269, 270, 271, 272, 273, 274, 275, 276, 277, 278, 279, 280, 281, 282, 283, 284, 285, 286, 287, 288, 289, 290, 291, 292, 293, 294, 295, 296, 297, 298, 299, 300, 301, 302, 303, 304, 305, 306, 307, 308, 309, 310, 311, 312, 313, 314, 315, 316, 317, 318, 319, 320, 321, 322, 323, 324, 325, 326, 327, 328, 329, 330, 331, 332, 333, 334, 335, 336, 337, 338, 339, 340, 341, 342, 343, 344, 345, 346, 347, 348, 349, 350, 351, 352, 353, 354, 355, 356, 357, 358, 359, 360, 361, 362, 363, 364, 365, 366, 367, 368, 369, 370, 371] rfl (by decide +kernel)
set_option maxRecDepth 20000 in
theorem gX12_isFresh_X12_isNode : GoodIn wsX12_isFresh (wsV RX12 330 RX12 yX12_isNode wsX12_isNode) := goodIn_app (goodIn_of _ (by decide +kernel)) ggX12_isFresh_X12_isNode
set_option maxRecDepth 20000 in
theorem ggX12_isFresh_X12_goes : GoodIn wsX12_isFresh wsX12_goes := goodIn_r _ [17, 18, 263, 264, 265, 266, 267, 268, 269, 270, 271, 272, 273, 274, 275, 276, 277, 278, 279, 280, 281, 282, 283, 284, 285, 286, 287, 288, 289, 290, 291, 292, 293, 294, 295, 296, 297, 298, 299, 300, 301, 302, 303, 304, 305, 306, 307, 308, 309, 310, 311, 312, 313, 314, 315, 316, 317, 318, 319, 320, 321, 322, 323, 324, 325, 326, 327, 328, 329, 330, 331, 332, 333, 334, 335, 336, 337, 338, 339, 340, 341, 342, 343, 344, 345, 346, 347, 348, 349, 350, 351, 352, 353, 354, 355, 356, 357, 358, 359, 360, 361, 362, 363, 364, 365, 366, 367, 368, 369, 370, 371] rfl (by decide +kernel)
set_option maxRecDepth 20000 in
theorem gX12_isFresh_X12_goes : GoodIn wsX12_isFresh (wsV RX12 298 RX12 yX12_goes wsX12_goes) := goodIn_app (goodIn_of _ (by decide +kernel)) ggX12_isFresh_X12_goes
theorem dX12_isFresh_0 : decode cX12_isFresh 0 = .ok (.aload_n 0, 1) := by decide +kernel
theorem dX12_isFresh_1 : decode cX12_isFresh 1 = .ok (.aload_n 0, 1) := by decide +kernel
theorem dX12_isFresh_2 : decode cX12_isFresh 2 = .ok (.iload_n 1, 1) := by decide +kernel
theorem dX12_isFresh_3 : decode cX12_isFresh 3 = .ok (.invokevirtual 330, 3) := by decide +kernel
theorem dX12_isFresh_6 : decode cX12_isFresh 6 = .ok (.iconst 1, 1) := by decide +kernel
theorem dX12_isFresh_7 : decode cX12_isFresh 7 = .ok (.iconst 1, 1) := by decide +kernel
theorem dX12_isFresh_8 : decode cX12_isFresh 8 = .ok (.invokevirtual 298, 3) := by decide +kernel
theorem dX12_isFresh_11 : decode cX12_isFresh 11 = .ok (.ifCond .ne 5, 3) := by decide +kernel
theorem dX12_isFresh_14 : decode cX12_isFresh 14 = .ok (.iconst 0, 1) := by decide +kernel
theorem dX12_isFresh_15 : decode cX12_isFresh 15 = .ok (.ireturn, 1) := by decide +kernel
theorem dX12_isFresh_16 : decode cX12_isFresh 16 = .ok (.aload_n 0, 1) := by decide +kernel
theorem dX12_isFresh_17 : decode cX12_isFresh 17 = .ok (.lconst 1, 1) := by decide +kernel
theorem dX12_isFresh_18 : decode cX12_isFresh 18 = .ok (.iload_n 1, 1) := by decide +kernel
theorem dX12_isFresh_19 : decode cX12_isFresh 19 = .ok (.lshl, 1) := by decide +kernel
theorem dX12_isFresh_20 : decode cX12_isFresh 20 = .ok (.invokevirtual 477, 3) := by decide +kernel
theorem dX12_isFresh_23 : decode cX12_isFresh 23 = .ok (.aload_n 0, 1) := by decide +kernel
theorem dX12_isFresh_24 : decode cX12_isFresh 24 = .ok (.iconst 0, 1) := by decide +kernel
theorem dX12_isFresh_25 : decode cX12_isFresh 25 = .ok (.putfield 607, 3) := by decide +kernel
theorem dX12_isFresh_28 : decode cX12_isFresh 28 = .ok (.aload_n 0, 1) := by decide +kernel
theorem dX12_isFresh_29 : decode cX12_isFresh 29 = .ok (.iload_n 1, 1) := by decide +kernel
theorem dX12_isFresh_30 : decode cX12_isFresh 30 = .ok (.sipush 1023, 3) := by decide +kernel
theorem dX12_isFresh_33 : decode cX12_isFresh 33 = .ok (.invokevirtual 628, 3) := by decide +kernel
theorem dX12_isFresh_36 : decode cX12_isFresh 36 = .ok (.aload_n 0, 1) := by decide +kernel
theorem dX12_isFresh_37 : decode cX12_isFresh 37 = .ok (.getfield 268, 3) := by decide +kernel
theorem dX12_isFresh_40 : decode cX12_isFresh 40 = .ok (.iload_n 1, 1) := by decide +kernel
theorem dX12_isFresh_41 : decode cX12_isFresh 41 = .ok (.iaload, 1) := by decide +kernel
theorem dX12_isFresh_42 : decode cX12_isFresh 42 = .ok (.ifCond .eq 25, 3) := by decide +kernel
theorem dX12_isFresh_45 : decode cX12_isFresh 45 = .ok (.aload_n 0, 1) := by decide +kernel
theorem dX12_isFresh_46 : decode cX12_isFresh 46 = .ok (.aload_n 0, 1) := by decide +kernel
theorem dX12_isFresh_47 : decode cX12_isFresh 47 = .ok (.getfield 262, 3) := by decide +kernel
theorem dX12_isFresh_50 : decode cX12_isFresh 50 = .ok (.sipush 3400, 3) := by decide +kernel
theorem dX12_isFresh_53 : decode cX12_isFresh 53 = .ok (.iload_n 1, 1) := by decide +kernel
theorem dX12_isFresh_54 : decode cX12_isFresh 54 = .ok (.imul, 1) := by decide +kernel
theorem dX12_isFresh_55 : decode cX12_isFresh 55 = .ok (.aload_n 0, 1) := by decide +kernel
theorem dX12_isFresh_56 : decode cX12_isFresh 56 = .ok (.getfield 265, 3) := by decide +kernel
theorem dX12_isFresh_59 : decode cX12_isFresh 59 = .ok (.iload_n 1, 1) := by decide +kernel
theorem dX12_isFresh_60 : decode cX12_isFresh 60 = .ok (.iaload, 1) := by decide +kernel
theorem dX12_isFresh_61 : decode cX12_isFresh 61 = .ok (.invokevirtual 634, 3) := by decide +kernel
theorem dX12_isFresh_64 : decode cX12_isFresh 64 = .ok (.ifCond .eq 7, 3) := by decide +kernel
theorem dX12_isFresh_67 : decode cX12_isFresh 67 = .ok (.iconst 1, 1) := by decide +kernel
theorem dX12_isFresh_68 : decode cX12_isFresh 68 = .ok (.goto 4, 3) := by decide +kernel
theorem dX12_isFresh_71 : decode cX12_isFresh 71 = .ok (.iconst 0, 1) := by decide +kernel
theorem dX12_isFresh_72 : decode cX12_isFresh 72 = .ok (.ireturn, 1) := by decide +kernel
theorem dJxa1e45_init_da8c8_0 : decode cJxa1e45_init_da8c8 0 = .ok (.aload_n 0, 1) := by decide +kernel
theorem dJxa1e45_init_da8c8_1 : decode cJxa1e45_init_da8c8 1 = .ok (.invokespecial 1, 3) := by decide +kernel
theorem dJxa1e45_init_da8c8_4 : decode cJxa1e45_init_da8c8 4 = .ok (.return_, 1) := by decide +kernel
set_option maxRecDepth 20000 in
theorem ggJxc12de_init_da8c8_Jxa1e45_init_da8c8 : GoodIn wsJxc12de_init_da8c8 wsJxa1e45_init_da8c8 := goodIn_r _ [5, 6, 7, 8] rfl (by decide +kernel)
set_option maxRecDepth 20000 in
theorem gJxc12de_init_da8c8_Jxa1e45_init_da8c8 : GoodIn wsJxc12de_init_da8c8 (wsJxa1e45_init_da8c8) := ggJxc12de_init_da8c8_Jxa1e45_init_da8c8
theorem dJxc12de_init_da8c8_0 : decode cJxc12de_init_da8c8 0 = .ok (.aload_n 0, 1) := by decide +kernel
theorem dJxc12de_init_da8c8_1 : decode cJxc12de_init_da8c8 1 = .ok (.invokespecial 1, 3) := by decide +kernel
theorem dJxc12de_init_da8c8_4 : decode cJxc12de_init_da8c8 4 = .ok (.aload_n 0, 1) := by decide +kernel
theorem dJxc12de_init_da8c8_5 : decode cJxc12de_init_da8c8 5 = .ok (.iconst 0, 1) := by decide +kernel
theorem dJxc12de_init_da8c8_6 : decode cJxc12de_init_da8c8 6 = .ok (.putfield 7, 3) := by decide +kernel
theorem dJxc12de_init_da8c8_9 : decode cJxc12de_init_da8c8 9 = .ok (.return_, 1) := by decide +kernel
set_option maxRecDepth 20000 in
theorem ggJx4a65c_init_da8c8_Jxc12de_init_da8c8 : GoodIn wsJx4a65c_init_da8c8 wsJxc12de_init_da8c8 := goodIn_r _ [6, 7, 8, 9, 10, 11, 12, 13, 14, 15, 16, 17] rfl (by decide +kernel)
set_option maxRecDepth 20000 in
theorem gJx4a65c_init_da8c8_Jxc12de_init_da8c8 : GoodIn wsJx4a65c_init_da8c8 (wsJxc12de_init_da8c8) := ggJx4a65c_init_da8c8_Jxc12de_init_da8c8
theorem dJx4a65c_init_da8c8_0 : decode cJx4a65c_init_da8c8 0 = .ok (.aload_n 0, 1) := by decide +kernel
theorem dJx4a65c_init_da8c8_1 : decode cJx4a65c_init_da8c8 1 = .ok (.invokespecial 1, 3) := by decide +kernel
theorem dJx4a65c_init_da8c8_4 : decode cJx4a65c_init_da8c8 4 = .ok (.aload_n 0, 1) := by decide +kernel
theorem dJx4a65c_init_da8c8_5 : decode cJx4a65c_init_da8c8 5 = .ok (.getstatic 39, 3) := by decide +kernel
theorem dJx4a65c_init_da8c8_8 : decode cJx4a65c_init_da8c8 8 = .ok (.putfield 9, 3) := by decide +kernel
theorem dJx4a65c_init_da8c8_11 : decode cJx4a65c_init_da8c8 11 = .ok (.return_, 1) := by decide +kernel
theorem dJx4a65c_size_8abf5_0 : decode cJx4a65c_size_8abf5 0 = .ok (.aload_n 0, 1) := by decide +kernel
theorem dJx4a65c_size_8abf5_1 : decode cJx4a65c_size_8abf5 1 = .ok (.getfield 48, 3) := by decide +kernel
theorem dJx4a65c_size_8abf5_4 : decode cJx4a65c_size_8abf5 4 = .ok (.ireturn, 1) := by decide +kernel
theorem dJ7_fill_53178_0 : decode cJ7_fill_53178 0 = .ok (.iconst 0, 1) := by decide +kernel
theorem dJ7_fill_53178_1 : decode cJ7_fill_53178 1 = .ok (.istore_n 2, 1) := by decide +kernel
theorem dJ7_fill_53178_2 : decode cJ7_fill_53178 2 = .ok (.aload_n 0, 1) := by decide +kernel
theorem dJ7_fill_53178_3 : decode cJ7_fill_53178 3 = .ok (.arraylength, 1) := by decide +kernel
theorem dJ7_fill_53178_4 : decode cJ7_fill_53178 4 = .ok (.istore_n 3, 1) := by decide +kernel
theorem dJ7_fill_53178_5 : decode cJ7_fill_53178 5 = .ok (.iload_n 2, 1) := by decide +kernel
theorem dJ7_fill_53178_6 : decode cJ7_fill_53178 6 = .ok (.iload_n 3, 1) := by decide +kernel
theorem dJ7_fill_53178_7 : decode cJ7_fill_53178 7 = .ok (.if_icmp .ge 13, 3) := by decide +kernel
theorem dJ7_fill_53178_10 : decode cJ7_fill_53178 10 = .ok (.aload_n 0, 1) := by decide +kernel
theorem dJ7_fill_53178_11 : decode cJ7_fill_53178 11 = .ok (.iload_n 2, 1) := by decide +kernel
theorem dJ7_fill_53178_12 : decode cJ7_fill_53178 12 = .ok (.iload_n 1, 1) := by decide +kernel
theorem dJ7_fill_53178_13 : decode cJ7_fill_53178 13 = .ok (.iastore, 1) := by decide +kernel
theorem dJ7_fill_53178_14 : decode cJ7_fill_53178 14 = .ok (.iinc 2 1, 3) := by decide +kernel
theorem dJ7_fill_53178_17 : decode cJ7_fill_53178 17 = .ok (.goto (-12), 3) := by decide +kernel
theorem dJ7_fill_53178_20 : decode cJ7_fill_53178 20 = .ok (.return_, 1) := by decide +kernel
set_option maxRecDepth 20000 in
theorem ggL_type_X11_type : GoodIn wsL_type wsX11_type := goodIn_ca (goodIn_ca (goodIn_ca (goodIn_r _ [8, 9, 10, 11, 12, 13, 14, 15, 16, 17, 7, 18, 19, 20, 21, 22, 23, 24, 25, 26, 27, 28, 29, 30, 31, 32, 33, 34, 35, 36, 37, 38, 39, 40, 41, 42, 43, 44, 45, 46, 47, 48, 49, 50, 51, 52, 53, 54, 55, 56, 57, 58, 59, 60, 61, 62, 63, 64, 65, 66, 67, 68, 69, 70, 71, 72, 73, 74, 75] rfl (by decide +kernel)) (goodIn_sub (fun _ h => List.mem_cons_of_mem _ (List.mem_append_left _ (List.mem_append_left _ (List.mem_append_right _ h)))) (by decide +kernel))) (goodIn_sub (fun _ h => List.mem_cons_of_mem _ (List.mem_append_left _ (List.mem_append_right _ h))) (by decide +kernel))) (goodIn_sub (fun _ h => List.mem_cons_of_mem _ (List.mem_append_right _ h)) (by decide +kernel))
set_option maxRecDepth 20000 in
theorem gL_type_X11_type : GoodIn wsL_type (wsV RL 7 RX11 yX11_type wsX11_type) := goodIn_app (goodIn_of _ (by decide +kernel)) ggL_type_X11_type
theorem dL_type_0 : decode cL_type 0 = .ok (.aload 4, 2) := by decide +kernel
theorem dL_type_2 : decode cL_type 2 = .ok (.iconst 0, 1) := by decide +kernel
theorem dL_type_3 : decode cL_type 3 = .ok (.aload_n 0, 1) := by decide +kernel
theorem dL_type_4 : decode cL_type 4 = .ok (.iload_n 1, 1) := by decide +kernel
theorem dL_type_5 : decode cL_type 5 = .ok (.iload_n 2, 1) := by decide +kernel
theorem dL_type_6 : decode cL_type 6 = .ok (.iload_n 3, 1) := by decide +kernel
theorem dL_type_7 : decode cL_type 7 = .ok (.invokevirtual 7, 3) := by decide +kernel
theorem dL_type_10 : decode cL_type 10 = .ok (.i2l, 1) := by decide +kernel
theorem dL_type_11 : decode cL_type 11 = .ok (.lastore, 1) := by decide +kernel
theorem dL_type_12 : decode cL_type 12 = .ok (.goto 15, 3) := by decide +kernel
theorem dL_type_15 : decode cL_type 15 = .ok (.astore 5, 2) := by decide +kernel
theorem dL_type_17 : decode cL_type 17 = .ok (.iconst 1, 1) := by decide +kernel
theorem dL_type_18 : decode cL_type 18 = .ok (.ireturn, 1) := by decide +kernel
theorem dL_type_19 : decode cL_type 19 = .ok (.astore 5, 2) := by decide +kernel
theorem dL_type_21 : decode cL_type 21 = .ok (.iconst 2, 1) := by decide +kernel
theorem dL_type_22 : decode cL_type 22 = .ok (.ireturn, 1) := by decide +kernel
theorem dL_type_23 : decode cL_type 23 = .ok (.astore 5, 2) := by decide +kernel
theorem dL_type_25 : decode cL_type 25 = .ok (.iconst 3, 1) := by decide +kernel
theorem dL_type_26 : decode cL_type 26 = .ok (.ireturn, 1) := by decide +kernel
theorem dL_type_27 : decode cL_type 27 = .ok (.iconst 0, 1) := by decide +kernel
theorem dL_type_28 : decode cL_type 28 = .ok (.ireturn, 1) := by decide +kernel
set_option maxRecDepth 20000 in
theorem ggL_leaf_X11_leaf : GoodIn wsL_leaf wsX11_leaf := goodIn_ca (goodIn_ca (goodIn_r _ [7, 8, 9, 10, 11, 12, 13, 14, 15, 6, 16, 17, 18, 19, 20, 21, 22, 23, 24, 25, 26, 27, 28, 29, 30, 31, 32, 33, 34, 35, 36, 37, 38, 39, 40, 41, 42, 43, 44, 45, 46, 47, 48, 49, 50, 51, 52, 53, 54, 55, 56, 57] rfl (by decide +kernel)) (goodIn_sub (fun _ h => List.mem_cons_of_mem _ (List.mem_append_left _ (List.mem_append_right _ h))) (by decide +kernel))) (goodIn_sub (fun _ h => List.mem_cons_of_mem _ (List.mem_append_right _ h)) (by decide +kernel))
set_option maxRecDepth 20000 in
theorem gL_leaf_X11_leaf : GoodIn wsL_leaf (wsV RL 19 RX11 yX11_leaf wsX11_leaf) := goodIn_app (goodIn_of _ (by decide +kernel)) ggL_leaf_X11_leaf
theorem dL_leaf_0 : decode cL_leaf 0 = .ok (.aload_n 3, 1) := by decide +kernel
theorem dL_leaf_1 : decode cL_leaf 1 = .ok (.iconst 0, 1) := by decide +kernel
theorem dL_leaf_2 : decode cL_leaf 2 = .ok (.aload_n 0, 1) := by decide +kernel
theorem dL_leaf_3 : decode cL_leaf 3 = .ok (.iload_n 1, 1) := by decide +kernel
theorem dL_leaf_4 : decode cL_leaf 4 = .ok (.iload_n 2, 1) := by decide +kernel
theorem dL_leaf_5 : decode cL_leaf 5 = .ok (.invokevirtual 19, 3) := by decide +kernel
theorem dL_leaf_8 : decode cL_leaf 8 = .ok (.i2l, 1) := by decide +kernel
theorem dL_leaf_9 : decode cL_leaf 9 = .ok (.lastore, 1) := by decide +kernel
theorem dL_leaf_10 : decode cL_leaf 10 = .ok (.goto 11, 3) := by decide +kernel
theorem dL_leaf_13 : decode cL_leaf 13 = .ok (.astore 4, 2) := by decide +kernel
theorem dL_leaf_15 : decode cL_leaf 15 = .ok (.iconst 1, 1) := by decide +kernel
theorem dL_leaf_16 : decode cL_leaf 16 = .ok (.ireturn, 1) := by decide +kernel
theorem dL_leaf_17 : decode cL_leaf 17 = .ok (.astore 4, 2) := by decide +kernel
theorem dL_leaf_19 : decode cL_leaf 19 = .ok (.iconst 2, 1) := by decide +kernel
theorem dL_leaf_20 : decode cL_leaf 20 = .ok (.ireturn, 1) := by decide +kernel
theorem dL_leaf_21 : decode cL_leaf 21 = .ok (.iconst 0, 1) := by decide +kernel
theorem dL_leaf_22 : decode cL_leaf 22 = .ok (.ireturn, 1) := by decide +kernel
set_option maxRecDepth 20000 in
theorem ggL_expression_X11_expression : GoodIn wsL_expression wsX11_expression := goodIn_ca (goodIn_ca (goodIn_ca (goodIn_r _ [8, 9, 10, 11, 12, 13, 14, 15, 16, 17, 7, 18, 19, 20, 21, 22, 23, 24, 25, 26, 27, 28, 29, 30, 31, 32, 33, 34, 35, 36, 37, 38, 39, 40, 41, 42, 43, 44, 45, 46, 47, 48, 49, 50, 51, 52, 53, 54, 55, 56, 57, 58, 59, 60, 61, 62, 63, 64, 65, 66] rfl (by decide +kernel)) (goodIn_sub (fun _ h => List.mem_cons_of_mem _ (List.mem_append_left _ (List.mem_append_left _ (List.mem_append_right _ h)))) (by decide +kernel))) (goodIn_sub (fun _ h => List.mem_cons_of_mem _ (List.mem_append_left _ (List.mem_append_right _ h))) (by decide +kernel))) (goodIn_sub (fun _ h => List.mem_cons_of_mem _ (List.mem_append_right _ h)) (by decide +kernel))
set_option maxRecDepth 20000 in
theorem gL_expression_X11_expression : GoodIn wsL_expression (wsV RL 23 RX11 yX11_expression wsX11_expression) := goodIn_app (goodIn_of _ (by decide +kernel)) ggL_expression_X11_expression
theorem dL_expression_0 : decode cL_expression 0 = .ok (.aload 5, 2) := by decide +kernel
theorem dL_expression_2 : decode cL_expression 2 = .ok (.iconst 0, 1) := by decide +kernel
theorem dL_expression_3 : decode cL_expression 3 = .ok (.aload_n 0, 1) := by decide +kernel
theorem dL_expression_4 : decode cL_expression 4 = .ok (.iload_n 1, 1) := by decide +kernel
theorem dL_expression_5 : decode cL_expression 5 = .ok (.iload_n 2, 1) := by decide +kernel
theorem dL_expression_6 : decode cL_expression 6 = .ok (.iload_n 3, 1) := by decide +kernel
theorem dL_expression_7 : decode cL_expression 7 = .ok (.iload 4, 2) := by decide +kernel
theorem dL_expression_9 : decode cL_expression 9 = .ok (.invokevirtual 23, 3) := by decide +kernel
theorem dL_expression_12 : decode cL_expression 12 = .ok (.i2l, 1) := by decide +kernel
theorem dL_expression_13 : decode cL_expression 13 = .ok (.lastore, 1) := by decide +kernel
theorem dL_expression_14 : decode cL_expression 14 = .ok (.goto 15, 3) := by decide +kernel
theorem dL_expression_17 : decode cL_expression 17 = .ok (.astore 6, 2) := by decide +kernel
theorem dL_expression_19 : decode cL_expression 19 = .ok (.iconst 1, 1) := by decide +kernel
theorem dL_expression_20 : decode cL_expression 20 = .ok (.ireturn, 1) := by decide +kernel
theorem dL_expression_21 : decode cL_expression 21 = .ok (.astore 6, 2) := by decide +kernel
theorem dL_expression_23 : decode cL_expression 23 = .ok (.iconst 2, 1) := by decide +kernel
theorem dL_expression_24 : decode cL_expression 24 = .ok (.ireturn, 1) := by decide +kernel
theorem dL_expression_25 : decode cL_expression 25 = .ok (.astore 6, 2) := by decide +kernel
theorem dL_expression_27 : decode cL_expression 27 = .ok (.iconst 3, 1) := by decide +kernel
theorem dL_expression_28 : decode cL_expression 28 = .ok (.ireturn, 1) := by decide +kernel
theorem dL_expression_29 : decode cL_expression 29 = .ok (.iconst 0, 1) := by decide +kernel
theorem dL_expression_30 : decode cL_expression 30 = .ok (.ireturn, 1) := by decide +kernel
set_option maxRecDepth 20000 in
theorem ggL_unit_X11_unit : GoodIn wsL_unit wsX11_unit := goodIn_ca (goodIn_r _ [6, 7, 8, 9, 10, 11, 12, 13, 14, 15, 16, 17, 18, 19, 20, 21, 22, 23, 24, 25, 26, 27, 28, 29, 30, 31, 32, 33, 34, 35, 36, 37, 38, 39, 40, 41, 42, 43, 44, 45, 46, 47, 48, 49, 50, 51, 52, 53, 54, 55, 56, 57, 58, 59, 60, 61, 62, 63, 64, 65, 66, 67, 68] rfl (by decide +kernel)) (goodIn_sub (fun _ h => List.mem_cons_of_mem _ (List.mem_append_right _ h)) (by decide +kernel))
set_option maxRecDepth 20000 in
theorem gL_unit_X11_unit : GoodIn wsL_unit (wsV RL 27 RX11 yX11_unit wsX11_unit) := goodIn_app (goodIn_of _ (by decide +kernel)) ggL_unit_X11_unit
theorem dL_unit_0 : decode cL_unit 0 = .ok (.aload_n 1, 1) := by decide +kernel
theorem dL_unit_1 : decode cL_unit 1 = .ok (.iconst 0, 1) := by decide +kernel
theorem dL_unit_2 : decode cL_unit 2 = .ok (.aload_n 0, 1) := by decide +kernel
theorem dL_unit_3 : decode cL_unit 3 = .ok (.invokevirtual 27, 3) := by decide +kernel
theorem dL_unit_6 : decode cL_unit 6 = .ok (.i2l, 1) := by decide +kernel
theorem dL_unit_7 : decode cL_unit 7 = .ok (.lastore, 1) := by decide +kernel
theorem dL_unit_8 : decode cL_unit 8 = .ok (.goto 6, 3) := by decide +kernel
theorem dL_unit_11 : decode cL_unit 11 = .ok (.astore_n 2, 1) := by decide +kernel
theorem dL_unit_12 : decode cL_unit 12 = .ok (.iconst 1, 1) := by decide +kernel
theorem dL_unit_13 : decode cL_unit 13 = .ok (.ireturn, 1) := by decide +kernel
theorem dL_unit_14 : decode cL_unit 14 = .ok (.iconst 0, 1) := by decide +kernel
theorem dL_unit_15 : decode cL_unit 15 = .ok (.ireturn, 1) := by decide +kernel
set_option maxRecDepth 20000 in
theorem ggL_version_X11_version : GoodIn wsL_version wsX11_version := goodIn_ca (goodIn_ca (goodIn_r _ [7, 8, 9, 10, 11, 12, 13, 14, 6, 15, 16, 17, 18, 19, 20, 21, 22, 23, 24, 25, 26, 27, 28, 29, 30, 31, 32, 33, 34, 35, 36, 37, 38, 39, 40, 41, 42, 43, 44, 45, 46, 47, 48, 49, 50, 51, 52, 53, 54, 55, 56, 57, 58, 59, 60, 61, 62, 63, 64, 65, 66, 67, 68, 69, 70, 71] rfl (by decide +kernel)) (goodIn_sub (fun _ h => List.mem_cons_of_mem _ (List.mem_append_left _ (List.mem_append_right _ h))) (by decide +kernel))) (goodIn_sub (fun _ h => List.mem_cons_of_mem _ (List.mem_append_right _ h)) (by decide +kernel))
set_option maxRecDepth 20000 in
theorem gL_version_X11_version : GoodIn wsL_version (wsV RL 31 RX11 yX11_version wsX11_version) := goodIn_app (goodIn_of _ (by decide +kernel)) ggL_version_X11_version
theorem dL_version_0 : decode cL_version 0 = .ok (.aload_n 2, 1) := by decide +kernel
theorem dL_version_1 : decode cL_version 1 = .ok (.iconst 0, 1) := by decide +kernel
theorem dL_version_2 : decode cL_version 2 = .ok (.aload_n 0, 1) := by decide +kernel
theorem dL_version_3 : decode cL_version 3 = .ok (.iload_n 1, 1) := by decide +kernel
theorem dL_version_4 : decode cL_version 4 = .ok (.invokevirtual 31, 3) := by decide +kernel
theorem dL_version_7 : decode cL_version 7 = .ok (.i2l, 1) := by decide +kernel
theorem dL_version_8 : decode cL_version 8 = .ok (.lastore, 1) := by decide +kernel
theorem dL_version_9 : decode cL_version 9 = .ok (.goto 9, 3) := by decide +kernel
theorem dL_version_12 : decode cL_version 12 = .ok (.astore_n 3, 1) := by decide +kernel
theorem dL_version_13 : decode cL_version 13 = .ok (.iconst 1, 1) := by decide +kernel
theorem dL_version_14 : decode cL_version 14 = .ok (.ireturn, 1) := by decide +kernel
theorem dL_version_15 : decode cL_version 15 = .ok (.astore_n 3, 1) := by decide +kernel
theorem dL_version_16 : decode cL_version 16 = .ok (.iconst 2, 1) := by decide +kernel
theorem dL_version_17 : decode cL_version 17 = .ok (.ireturn, 1) := by decide +kernel
theorem dL_version_18 : decode cL_version 18 = .ok (.iconst 0, 1) := by decide +kernel
theorem dL_version_19 : decode cL_version 19 = .ok (.ireturn, 1) := by decide +kernel
set_option maxRecDepth 20000 in
theorem ggL_setType_X11_setType : GoodIn wsL_setType wsX11_setType := goodIn_ca (goodIn_ca (goodIn_r _ [7, 8, 9, 10, 11, 12, 13, 6, 14, 15, 16, 17, 18, 19, 20, 21, 22, 23, 24, 25, 26, 27, 28, 29, 30, 31, 32, 33, 34, 35, 36, 37, 38, 39, 40, 41, 42, 43, 44, 45, 46, 47, 48, 49, 50, 51, 52, 53, 54, 55, 56, 57, 58, 59, 60, 61, 62, 63, 64, 65, 66] rfl (by decide +kernel)) (goodIn_sub (fun _ h => List.mem_cons_of_mem _ (List.mem_append_left _ (List.mem_append_right _ h))) (by decide +kernel))) (goodIn_sub (fun _ h => List.mem_cons_of_mem _ (List.mem_append_right _ h)) (by decide +kernel))
set_option maxRecDepth 20000 in
theorem gL_setType_X11_setType : GoodIn wsL_setType (wsV RL 35 RX11 yX11_setType wsX11_setType) := goodIn_app (goodIn_of _ (by decide +kernel)) ggL_setType_X11_setType
theorem dL_setType_0 : decode cL_setType 0 = .ok (.aload_n 0, 1) := by decide +kernel
theorem dL_setType_1 : decode cL_setType 1 = .ok (.iload_n 1, 1) := by decide +kernel
theorem dL_setType_2 : decode cL_setType 2 = .ok (.iload_n 2, 1) := by decide +kernel
theorem dL_setType_3 : decode cL_setType 3 = .ok (.iload_n 3, 1) := by decide +kernel
theorem dL_setType_4 : decode cL_setType 4 = .ok (.invokevirtual 35, 3) := by decide +kernel
theorem dL_setType_7 : decode cL_setType 7 = .ok (.goto 11, 3) := by decide +kernel
theorem dL_setType_10 : decode cL_setType 10 = .ok (.astore 4, 2) := by decide +kernel
theorem dL_setType_12 : decode cL_setType 12 = .ok (.iconst 1, 1) := by decide +kernel
theorem dL_setType_13 : decode cL_setType 13 = .ok (.ireturn, 1) := by decide +kernel
theorem dL_setType_14 : decode cL_setType 14 = .ok (.astore 4, 2) := by decide +kernel
theorem dL_setType_16 : decode cL_setType 16 = .ok (.iconst 2, 1) := by decide +kernel
theorem dL_setType_17 : decode cL_setType 17 = .ok (.ireturn, 1) := by decide +kernel
theorem dL_setType_18 : decode cL_setType 18 = .ok (.iconst 0, 1) := by decide +kernel
theorem dL_setType_19 : decode cL_setType 19 = .ok (.ireturn, 1) := by decide +kernel
set_option maxRecDepth 20000 in
theorem ggL_setValue_X11_setValue : GoodIn wsL_setValue wsX11_setValue := goodIn_ca (goodIn_ca (goodIn_r _ [7, 8, 9, 10, 11, 12, 13, 14, 15, 16, 17, 6, 18, 19, 20, 21, 22, 23, 24, 25, 26, 27, 28, 29, 30, 31, 32, 33, 34, 35, 36, 37, 38, 39, 40, 41, 42, 43, 44, 45, 46, 47, 48, 49, 50, 51, 52, 53, 54, 55, 56, 57, 58, 59, 60, 61, 62, 63, 64, 65, 66, 67, 68, 69, 70, 71, 72, 73] rfl (by decide +kernel)) (goodIn_sub (fun _ h => List.mem_cons_of_mem _ (List.mem_append_left _ (List.mem_append_right _ h))) (by decide +kernel))) (goodIn_sub (fun _ h => List.mem_cons_of_mem _ (List.mem_append_right _ h)) (by decide +kernel))
set_option maxRecDepth 20000 in
theorem gL_setValue_X11_setValue : GoodIn wsL_setValue (wsV RL 39 RX11 yX11_setValue wsX11_setValue) := goodIn_app (goodIn_of _ (by decide +kernel)) ggL_setValue_X11_setValue
theorem dL_setValue_0 : decode cL_setValue 0 = .ok (.aload_n 0, 1) := by decide +kernel
theorem dL_setValue_1 : decode cL_setValue 1 = .ok (.iload_n 1, 1) := by decide +kernel
theorem dL_setValue_2 : decode cL_setValue 2 = .ok (.iload_n 2, 1) := by decide +kernel
theorem dL_setValue_3 : decode cL_setValue 3 = .ok (.iload_n 3, 1) := by decide +kernel
theorem dL_setValue_4 : decode cL_setValue 4 = .ok (.iload 4, 2) := by decide +kernel
theorem dL_setValue_6 : decode cL_setValue 6 = .ok (.iload 5, 2) := by decide +kernel
theorem dL_setValue_8 : decode cL_setValue 8 = .ok (.invokevirtual 39, 3) := by decide +kernel
theorem dL_setValue_11 : decode cL_setValue 11 = .ok (.goto 11, 3) := by decide +kernel
theorem dL_setValue_14 : decode cL_setValue 14 = .ok (.astore 6, 2) := by decide +kernel
theorem dL_setValue_16 : decode cL_setValue 16 = .ok (.iconst 1, 1) := by decide +kernel
theorem dL_setValue_17 : decode cL_setValue 17 = .ok (.ireturn, 1) := by decide +kernel
theorem dL_setValue_18 : decode cL_setValue 18 = .ok (.astore 6, 2) := by decide +kernel
theorem dL_setValue_20 : decode cL_setValue 20 = .ok (.iconst 2, 1) := by decide +kernel
theorem dL_setValue_21 : decode cL_setValue 21 = .ok (.ireturn, 1) := by decide +kernel
theorem dL_setValue_22 : decode cL_setValue 22 = .ok (.iconst 0, 1) := by decide +kernel
theorem dL_setValue_23 : decode cL_setValue 23 = .ok (.ireturn, 1) := by decide +kernel
set_option maxRecDepth 20000 in
theorem ggL_remove_X11_remove : GoodIn wsL_remove wsX11_remove := goodIn_ca (goodIn_ca (goodIn_r _ [7, 8, 9, 10, 11, 12, 13, 6, 14, 15, 16, 17, 18, 19, 20, 21, 22, 23, 24, 25, 26, 27, 28, 29, 30, 31, 32, 33, 34, 35, 36, 37, 38, 39, 40, 41, 42, 43, 44, 45, 46, 47, 48, 49, 50, 51, 52, 53, 54, 55, 56, 57, 58, 59, 60, 61, 62, 63, 64, 65, 66, 67] rfl (by decide +kernel)) (goodIn_sub (fun _ h => List.mem_cons_of_mem _ (List.mem_append_left _ (List.mem_append_right _ h))) (by decide +kernel))) (goodIn_sub (fun _ h => List.mem_cons_of_mem _ (List.mem_append_right _ h)) (by decide +kernel))
set_option maxRecDepth 20000 in
theorem gL_remove_X11_remove : GoodIn wsL_remove (wsV RL 43 RX11 yX11_remove wsX11_remove) := goodIn_app (goodIn_of _ (by decide +kernel)) ggL_remove_X11_remove
theorem dL_remove_0 : decode cL_remove 0 = .ok (.aload_n 3, 1) := by decide +kernel
theorem dL_remove_1 : decode cL_remove 1 = .ok (.iconst 0, 1) := by decide +kernel
theorem dL_remove_2 : decode cL_remove 2 = .ok (.aload_n 0, 1) := by decide +kernel
theorem dL_remove_3 : decode cL_remove 3 = .ok (.iload_n 1, 1) := by decide +kernel
theorem dL_remove_4 : decode cL_remove 4 = .ok (.iload_n 2, 1) := by decide +kernel
theorem dL_remove_5 : decode cL_remove 5 = .ok (.invokevirtual 43, 3) := by decide +kernel
theorem dL_remove_8 : decode cL_remove 8 = .ok (.ifCond .eq 7, 3) := by decide +kernel
theorem dL_remove_11 : decode cL_remove 11 = .ok (.lconst 1, 1) := by decide +kernel
theorem dL_remove_12 : decode cL_remove 12 = .ok (.goto 4, 3) := by decide +kernel
theorem dL_remove_15 : decode cL_remove 15 = .ok (.lconst 0, 1) := by decide +kernel
theorem dL_remove_16 : decode cL_remove 16 = .ok (.lastore, 1) := by decide +kernel
theorem dL_remove_17 : decode cL_remove 17 = .ok (.goto 11, 3) := by decide +kernel
theorem dL_remove_20 : decode cL_remove 20 = .ok (.astore 4, 2) := by decide +kernel
theorem dL_remove_22 : decode cL_remove 22 = .ok (.iconst 1, 1) := by decide +kernel
theorem dL_remove_23 : decode cL_remove 23 = .ok (.ireturn, 1) := by decide +kernel
theorem dL_remove_24 : decode cL_remove 24 = .ok (.astore 4, 2) := by decide +kernel
