theorem mem_rr {big : List Cond} (ws : List Cond) (ps : List Nat) (hp : ws = ps.filterMap (fun i => big[i]?)) : ∀ w ∈ ws, w ∈ big := by
  intro w hw
  rw [hp] at hw
  obtain ⟨i, -, hi⟩ := List.mem_filterMap.mp hw
  exact List.mem_of_getElem? hi
set_option maxRecDepth 20000 in
theorem inT_Jx4a65c : ∀ w ∈ wsJx4a65c0, w ∈ lw_tbl := mem_rr (big := lw_tbl) _ [235, 231, 233] rfl
set_option maxRecDepth 20000 in
theorem inT_X0 : ∀ w ∈ wsX00, w ∈ lw_tbl := mem_rr (big := lw_tbl) _ [434, 436, 438, 440, 442, 444, 446] rfl
set_option maxRecDepth 20000 in
theorem inT_X1 : ∀ w ∈ wsX10, w ∈ lw_tbl := mem_rr (big := lw_tbl) _ [390, 392, 394, 396, 398] rfl
set_option maxRecDepth 20000 in
theorem inT_X2 : ∀ w ∈ wsX20, w ∈ lw_tbl := mem_rr (big := lw_tbl) _ [480, 482, 484, 486, 488, 490, 492, 494] rfl
set_option maxRecDepth 20000 in
theorem inT_X3 : ∀ w ∈ wsX30, w ∈ lw_tbl := mem_rr (big := lw_tbl) _ [564, 566, 568, 570, 572, 574, 576, 578, 580, 582, 584, 586, 588, 590, 592, 594, 596, 598] rfl
set_option maxRecDepth 20000 in
theorem inT_X4 : ∀ w ∈ wsX40, w ∈ lw_tbl := mem_rr (big := lw_tbl) _ [962, 964, 966, 968, 970, 972, 974, 976, 978, 980, 982, 984, 986, 988] rfl
set_option maxRecDepth 20000 in
theorem inT_X5 : ∀ w ∈ wsX50, w ∈ lw_tbl := mem_rr (big := lw_tbl) _ [314, 316, 318, 320, 322, 324, 326, 328, 330, 332, 334, 336, 338, 340, 342, 344, 346, 348] rfl
set_option maxRecDepth 20000 in
theorem inT_X6 : ∀ w ∈ wsX60, w ∈ lw_tbl := mem_rr (big := lw_tbl) _ [505, 507] rfl
set_option maxRecDepth 20000 in
theorem inT_X7 : ∀ w ∈ wsX70, w ∈ lw_tbl := mem_rr (big := lw_tbl) _ [367, 369, 371] rfl
set_option maxRecDepth 20000 in
theorem inT_X8 : ∀ w ∈ wsX80, w ∈ lw_tbl := mem_rr (big := lw_tbl) _ [461, 463, 465, 467, 469] rfl
set_option maxRecDepth 20000 in
theorem inT_X9 : ∀ w ∈ wsX90, w ∈ lw_tbl := mem_rr (big := lw_tbl) _ [528, 530, 532, 534, 536] rfl
set_option maxRecDepth 20000 in
theorem inT_X10 : ∀ w ∈ wsX100, w ∈ lw_tbl := mem_rr (big := lw_tbl) _ [265, 267, 269, 271] rfl
set_option maxRecDepth 20000 in
theorem inT_X11 : ∀ w ∈ wsX110, w ∈ lw_tbl := mem_rr (big := lw_tbl) _ [607, 609, 611, 613, 615, 617] rfl
set_option maxRecDepth 20000 in
theorem inT_X12 : ∀ w ∈ wsX120, w ∈ lw_tbl := mem_rr (big := lw_tbl) _ [1862, 1864, 1866, 1868, 1870, 1872, 1874, 1876, 1878, 1880, 1882, 1884, 1886, 1888, 1890, 1892, 1894, 1896, 1898, 1900, 1902, 1904, 1906, 1908, 1910, 1912, 1914, 1916, 1918, 1920, 1922, 1924, 1926, 1928, 1930, 1932, 1934, 1936, 1938, 1940, 1942, 1944, 1946, 1948, 1950, 1952, 1954, 1956, 1958, 1960, 1962, 1964, 1966, 1968, 1970, 1972, 1974, 1976, 1978, 1980, 1982, 1984, 1986, 1988, 1990, 1992, 1994, 1996, 1998, 2000, 2002, 2004, 2006, 2008, 2010, 2012, 2014, 2016, 2018, 2020, 2022, 2024, 2026, 2028, 2030, 2032, 2034, 2036, 2038, 2040, 2042, 2044, 2046, 2048, 2050, 2052, 2054, 2056, 2058, 2060, 2062, 2064, 2066, 2068, 2070, 2072, 2074, 2076, 2078] rfl
theorem inT_at_IOB : ∀ w ∈ (vx_atS RX11 166 "java/lang/IndexOutOfBoundsException" ["java/lang/RuntimeException", "java/lang/Exception"]).filter goodWord, w ∈ lw_tbl := by decide +kernel
theorem inT_at_IAE : ∀ w ∈ (vx_atS RX11 46 "java/lang/IllegalArgumentException" ["java/lang/RuntimeException", "java/lang/Exception"]).filter goodWord, w ∈ lw_tbl := by decide +kernel
theorem inT_at_ISE : ∀ w ∈ (vx_atS RX11 67 "java/lang/IllegalStateException" ["java/lang/RuntimeException", "java/lang/Exception"]).filter goodWord, w ∈ lw_tbl := by decide +kernel
set_option maxRecDepth 20000 in
theorem inD_fill : ∀ w ∈ wD_fill, w ∈ lw_tbl := mem_rr (big := lw_tbl) _ [] rfl
set_option maxRecDepth 20000 in
theorem inT_fill : ∀ w ∈ wK_fill, w ∈ lw_tbl := fun w h => (List.mem_cons.mp h).elim (fun e => by rw [e]; exact List.mem_of_getElem? (i := 246) rfl) (fun h => (List.mem_append.mp h).elim (fun h => inD_fill w h) (fun h => absurd h List.not_mem_nil))
set_option maxRecDepth 20000 in
theorem inD_X10_init : ∀ w ∈ wD_X10_init, w ∈ lw_tbl := mem_rr (big := lw_tbl) _ [243, 200, 201, 238, 247, 251, 255, 260, 244, 245, 172] rfl
set_option maxRecDepth 20000 in
theorem inT_X10_init : ∀ w ∈ wK_X10_init, w ∈ lw_tbl := fun w h => (List.mem_cons.mp h).elim (fun e => by rw [e]; exact List.mem_of_getElem? (i := 242) rfl) (fun h => (List.mem_append.mp h).elim (fun h => inD_X10_init w h) (fun h => (List.mem_append.mp h).elim (fun h => inT_X10 w h) (fun h => (List.mem_append.mp h).elim (fun h => inT_fill w h) (fun h => absurd h List.not_mem_nil))))
set_option maxRecDepth 20000 in
theorem inD_X7_init : ∀ w ∈ wD_X7_init, w ∈ lw_tbl := mem_rr (big := lw_tbl) _ [362, 200, 201, 238, 364, 366, 363, 245, 172] rfl
set_option maxRecDepth 20000 in
theorem inT_X7_init : ∀ w ∈ wK_X7_init, w ∈ lw_tbl := fun w h => (List.mem_cons.mp h).elim (fun e => by rw [e]; exact List.mem_of_getElem? (i := 361) rfl) (fun h => (List.mem_append.mp h).elim (fun h => inD_X7_init w h) (fun h => (List.mem_append.mp h).elim (fun h => inT_X7 w h) (fun h => (List.mem_append.mp h).elim (fun h => inT_fill w h) (fun h => absurd h List.not_mem_nil))))
set_option maxRecDepth 20000 in
theorem inD_X1_init : ∀ w ∈ wD_X1_init, w ∈ lw_tbl := mem_rr (big := lw_tbl) _ [379, 200, 201, 380, 238, 381, 382, 383, 384, 387] rfl
set_option maxRecDepth 20000 in
theorem inT_X1_init : ∀ w ∈ wK_X1_init, w ∈ lw_tbl := fun w h => (List.mem_cons.mp h).elim (fun e => by rw [e]; exact List.mem_of_getElem? (i := 378) rfl) (fun h => (List.mem_append.mp h).elim (fun h => inD_X1_init w h) (fun h => (List.mem_append.mp h).elim (fun h => inT_X1 w h) (fun h => absurd h List.not_mem_nil)))
set_option maxRecDepth 20000 in
theorem inD_X0_init : ∀ w ∈ wD_X0_init, w ∈ lw_tbl := mem_rr (big := lw_tbl) _ [406, 200, 201, 238, 411, 415, 407, 420, 425, 449, 430, 432] rfl
set_option maxRecDepth 20000 in
theorem inT_X0_init : ∀ w ∈ wK_X0_init, w ∈ lw_tbl := fun w h => (List.mem_cons.mp h).elim (fun e => by rw [e]; exact List.mem_of_getElem? (i := 405) rfl) (fun h => (List.mem_append.mp h).elim (fun h => inD_X0_init w h) (fun h => (List.mem_append.mp h).elim (fun h => inT_X0 w h) (fun h => absurd h List.not_mem_nil)))
set_option maxRecDepth 20000 in
theorem inD_X6_init : ∀ w ∈ wD_X6_init, w ∈ lw_tbl := mem_rr (big := lw_tbl) _ [502, 200, 201, 238, 503] rfl
set_option maxRecDepth 20000 in
theorem inT_X6_init : ∀ w ∈ wK_X6_init, w ∈ lw_tbl := fun w h => (List.mem_cons.mp h).elim (fun e => by rw [e]; exact List.mem_of_getElem? (i := 501) rfl) (fun h => (List.mem_append.mp h).elim (fun h => inD_X6_init w h) (fun h => (List.mem_append.mp h).elim (fun h => inT_X6 w h) (fun h => absurd h List.not_mem_nil)))
set_option maxRecDepth 20000 in
theorem inD_X9_init : ∀ w ∈ wD_X9_init, w ∈ lw_tbl := mem_rr (big := lw_tbl) _ [521, 200, 201, 238, 522, 523, 539, 524, 525] rfl
set_option maxRecDepth 20000 in
theorem inT_X9_init : ∀ w ∈ wK_X9_init, w ∈ lw_tbl := fun w h => (List.mem_cons.mp h).elim (fun e => by rw [e]; exact List.mem_of_getElem? (i := 520) rfl) (fun h => (List.mem_append.mp h).elim (fun h => inD_X9_init w h) (fun h => (List.mem_append.mp h).elim (fun h => inT_X9 w h) (fun h => absurd h List.not_mem_nil)))
set_option maxRecDepth 20000 in
theorem inD_X8_init : ∀ w ∈ wD_X8_init, w ∈ lw_tbl := mem_rr (big := lw_tbl) _ [455, 200, 201, 238, 458, 459, 456, 457] rfl
set_option maxRecDepth 20000 in
theorem inT_X8_init : ∀ w ∈ wK_X8_init, w ∈ lw_tbl := fun w h => (List.mem_cons.mp h).elim (fun e => by rw [e]; exact List.mem_of_getElem? (i := 454) rfl) (fun h => (List.mem_append.mp h).elim (fun h => inD_X8_init w h) (fun h => (List.mem_append.mp h).elim (fun h => inT_X8 w h) (fun h => absurd h List.not_mem_nil)))
set_option maxRecDepth 20000 in
theorem inD_X2_init : ∀ w ∈ wD_X2_init, w ∈ lw_tbl := mem_rr (big := lw_tbl) _ [356, 200, 201, 357, 358, 174, 359, 360, 473, 374, 375, 175, 377, 474, 475, 401, 402, 176, 404, 477, 238, 478, 479, 472, 450, 451, 177, 452, 453, 476] rfl
set_option maxRecDepth 20000 in
theorem inT_X2_init : ∀ w ∈ wK_X2_init, w ∈ lw_tbl := fun w h => (List.mem_cons.mp h).elim (fun e => by rw [e]; exact List.mem_of_getElem? (i := 355) rfl) (fun h => (List.mem_append.mp h).elim (fun h => inD_X2_init w h) (fun h => (List.mem_append.mp h).elim (fun h => inT_X7 w h) (fun h => (List.mem_append.mp h).elim (fun h => inT_X7_init w h) (fun h => (List.mem_append.mp h).elim (fun h => inT_X2 w h) (fun h => (List.mem_append.mp h).elim (fun h => inT_X1 w h) (fun h => (List.mem_append.mp h).elim (fun h => inT_X1_init w h) (fun h => (List.mem_append.mp h).elim (fun h => inT_X0 w h) (fun h => (List.mem_append.mp h).elim (fun h => inT_X0_init w h) (fun h => (List.mem_append.mp h).elim (fun h => inT_X8 w h) (fun h => (List.mem_append.mp h).elim (fun h => inT_X8_init w h) (fun h => absurd h List.not_mem_nil)))))))))))
set_option maxRecDepth 20000 in
theorem inD_X3_init : ∀ w ∈ wD_X3_init, w ∈ lw_tbl := mem_rr (big := lw_tbl) _ [515, 200, 201, 238, 541, 542, 543, 544, 545, 449, 546, 547, 548, 516, 517, 180, 519, 552, 554, 558, 540] rfl
set_option maxRecDepth 20000 in
theorem inT_X3_init : ∀ w ∈ wK_X3_init, w ∈ lw_tbl := fun w h => (List.mem_cons.mp h).elim (fun e => by rw [e]; exact List.mem_of_getElem? (i := 514) rfl) (fun h => (List.mem_append.mp h).elim (fun h => inD_X3_init w h) (fun h => (List.mem_append.mp h).elim (fun h => inT_X3 w h) (fun h => (List.mem_append.mp h).elim (fun h => inT_X9 w h) (fun h => (List.mem_append.mp h).elim (fun h => inT_X9_init w h) (fun h => absurd h List.not_mem_nil)))))
set_option maxRecDepth 20000 in
theorem inD_Jxa1e45_init_da8c8 : ∀ w ∈ wD_Jxa1e45_init_da8c8, w ∈ lw_tbl := mem_rr (big := lw_tbl) _ [223, 200, 201] rfl
set_option maxRecDepth 20000 in
theorem inT_Jxa1e45_init_da8c8 : ∀ w ∈ wK_Jxa1e45_init_da8c8, w ∈ lw_tbl := fun w h => (List.mem_cons.mp h).elim (fun e => by rw [e]; exact List.mem_of_getElem? (i := 222) rfl) (fun h => (List.mem_append.mp h).elim (fun h => inD_Jxa1e45_init_da8c8 w h) (fun h => absurd h List.not_mem_nil))
set_option maxRecDepth 20000 in
theorem inD_Jxc12de_init_da8c8 : ∀ w ∈ wD_Jxc12de_init_da8c8, w ∈ lw_tbl := mem_rr (big := lw_tbl) _ [168, 220, 221, 228] rfl
set_option maxRecDepth 20000 in
theorem inT_Jxc12de_init_da8c8 : ∀ w ∈ wK_Jxc12de_init_da8c8, w ∈ lw_tbl := fun w h => (List.mem_cons.mp h).elim (fun e => by rw [e]; exact List.mem_of_getElem? (i := 219) rfl) (fun h => (List.mem_append.mp h).elim (fun h => inD_Jxc12de_init_da8c8 w h) (fun h => (List.mem_append.mp h).elim (fun h => inT_Jxa1e45_init_da8c8 w h) (fun h => (List.mem_append.mp h).elim (fun h => inT_Jx4a65c w h) (fun h => absurd h List.not_mem_nil))))
set_option maxRecDepth 20000 in
theorem inD_Jx4a65c_init_da8c8 : ∀ w ∈ wD_Jx4a65c_init_da8c8, w ∈ lw_tbl := mem_rr (big := lw_tbl) _ [169, 217, 218, 224, 226] rfl
set_option maxRecDepth 20000 in
theorem inT_Jx4a65c_init_da8c8 : ∀ w ∈ wK_Jx4a65c_init_da8c8, w ∈ lw_tbl := fun w h => (List.mem_cons.mp h).elim (fun e => by rw [e]; exact List.mem_of_getElem? (i := 216) rfl) (fun h => (List.mem_append.mp h).elim (fun h => inD_Jx4a65c_init_da8c8 w h) (fun h => (List.mem_append.mp h).elim (fun h => inT_Jxc12de_init_da8c8 w h) (fun h => (List.mem_append.mp h).elim (fun h => inT_Jx4a65c w h) (fun h => absurd h List.not_mem_nil))))
set_option maxRecDepth 20000 in
theorem inD_X5_init : ∀ w ∈ wD_X5_init, w ∈ lw_tbl := mem_rr (big := lw_tbl) _ [207, 200, 201, 208, 238, 274, 276, 279, 281, 284, 287, 290, 293, 296, 297, 300, 210, 303, 304, 212, 213, 170, 214, 215, 308, 239, 171, 240, 241] rfl
set_option maxRecDepth 20000 in
theorem inT_X5_init : ∀ w ∈ wK_X5_init, w ∈ lw_tbl := fun w h => (List.mem_cons.mp h).elim (fun e => by rw [e]; exact List.mem_of_getElem? (i := 206) rfl) (fun h => (List.mem_append.mp h).elim (fun h => inD_X5_init w h) (fun h => (List.mem_append.mp h).elim (fun h => inT_X5 w h) (fun h => (List.mem_append.mp h).elim (fun h => inT_Jx4a65c w h) (fun h => (List.mem_append.mp h).elim (fun h => inT_Jx4a65c_init_da8c8 w h) (fun h => (List.mem_append.mp h).elim (fun h => inT_X10 w h) (fun h => (List.mem_append.mp h).elim (fun h => inT_X10_init w h) (fun h => absurd h List.not_mem_nil)))))))
set_option maxRecDepth 20000 in
theorem inD_X11_init : ∀ w ∈ wD_X11_init, w ∈ lw_tbl := mem_rr (big := lw_tbl) _ [199, 200, 201, 202, 203, 167, 204, 205, 601, 351, 352, 173, 353, 354, 602, 497, 498, 178, 500, 603, 510, 511, 179, 512, 513, 604, 605] rfl
set_option maxRecDepth 20000 in
theorem inT_X11_init : ∀ w ∈ wK_X11_init, w ∈ lw_tbl := fun w h => (List.mem_cons.mp h).elim (fun e => by rw [e]; exact List.mem_of_getElem? (i := 198) rfl) (fun h => (List.mem_append.mp h).elim (fun h => inD_X11_init w h) (fun h => (List.mem_append.mp h).elim (fun h => inT_X5 w h) (fun h => (List.mem_append.mp h).elim (fun h => inT_X5_init w h) (fun h => (List.mem_append.mp h).elim (fun h => inT_X11 w h) (fun h => (List.mem_append.mp h).elim (fun h => inT_X2 w h) (fun h => (List.mem_append.mp h).elim (fun h => inT_X2_init w h) (fun h => (List.mem_append.mp h).elim (fun h => inT_X6 w h) (fun h => (List.mem_append.mp h).elim (fun h => inT_X6_init w h) (fun h => (List.mem_append.mp h).elim (fun h => inT_X3 w h) (fun h => (List.mem_append.mp h).elim (fun h => inT_X3_init w h) (fun h => absurd h List.not_mem_nil)))))))))))
set_option maxRecDepth 20000 in
theorem inD_X12_in : ∀ w ∈ wD_X12_in, w ∈ lw_tbl := mem_rr (big := lw_tbl) _ [] rfl
set_option maxRecDepth 20000 in
theorem inT_X12_in : ∀ w ∈ wK_X12_in, w ∈ lw_tbl := fun w h => (List.mem_cons.mp h).elim (fun e => by rw [e]; exact List.mem_of_getElem? (i := 2091) rfl) (fun h => (List.mem_append.mp h).elim (fun h => inD_X12_in w h) (fun h => absurd h List.not_mem_nil))
set_option maxRecDepth 20000 in
theorem inD_X12_isName : ∀ w ∈ wD_X12_isName, w ∈ lw_tbl := mem_rr (big := lw_tbl) _ [2089, 2090, 181] rfl
set_option maxRecDepth 20000 in
theorem inT_X12_isName : ∀ w ∈ wK_X12_isName, w ∈ lw_tbl := fun w h => (List.mem_cons.mp h).elim (fun e => by rw [e]; exact List.mem_of_getElem? (i := 2094) rfl) (fun h => (List.mem_append.mp h).elim (fun h => inD_X12_isName w h) (fun h => (List.mem_append.mp h).elim (fun h => inT_X12_in w h) (fun h => absurd h List.not_mem_nil)))
set_option maxRecDepth 20000 in
theorem inD_X12_isValue : ∀ w ∈ wD_X12_isValue, w ∈ lw_tbl := mem_rr (big := lw_tbl) _ [2089, 2090, 181] rfl
set_option maxRecDepth 20000 in
theorem inT_X12_isValue : ∀ w ∈ wK_X12_isValue, w ∈ lw_tbl := fun w h => (List.mem_cons.mp h).elim (fun e => by rw [e]; exact List.mem_of_getElem? (i := 2109) rfl) (fun h => (List.mem_append.mp h).elim (fun h => inD_X12_isValue w h) (fun h => (List.mem_append.mp h).elim (fun h => inT_X12_in w h) (fun h => absurd h List.not_mem_nil)))
set_option maxRecDepth 20000 in
theorem inD_X12_partsOf : ∀ w ∈ wD_X12_partsOf, w ∈ lw_tbl := mem_rr (big := lw_tbl) _ [] rfl
set_option maxRecDepth 20000 in
theorem inT_X12_partsOf : ∀ w ∈ wK_X12_partsOf, w ∈ lw_tbl := fun w h => (List.mem_cons.mp h).elim (fun e => by rw [e]; exact List.mem_of_getElem? (i := 2120) rfl) (fun h => (List.mem_append.mp h).elim (fun h => inD_X12_partsOf w h) (fun h => absurd h List.not_mem_nil))
set_option maxRecDepth 20000 in
theorem inD_X12_goes_f : ∀ w ∈ wD_X12_goes_f, w ∈ lw_tbl := mem_rr (big := lw_tbl) _ [1778] rfl
set_option maxRecDepth 20000 in
theorem inT_X12_goes_f : ∀ w ∈ wK_X12_goes_f, w ∈ lw_tbl := fun w h => (List.mem_cons.mp h).elim (fun e => by rw [e]; exact List.mem_of_getElem? (i := 2102) rfl) (fun h => (List.mem_append.mp h).elim (fun h => inD_X12_goes_f w h) (fun h => (List.mem_append.mp h).elim (fun h => inT_X12 w h) (fun h => absurd h List.not_mem_nil)))
set_option maxRecDepth 20000 in
theorem inD_X12_goes_s : ∀ w ∈ wD_X12_goes_s, w ∈ lw_tbl := mem_rr (big := lw_tbl) _ [1778] rfl
set_option maxRecDepth 20000 in
theorem inT_X12_goes_s : ∀ w ∈ wK_X12_goes_s, w ∈ lw_tbl := fun w h => (List.mem_cons.mp h).elim (fun e => by rw [e]; exact List.mem_of_getElem? (i := 2102) rfl) (fun h => (List.mem_append.mp h).elim (fun h => inD_X12_goes_s w h) (fun h => (List.mem_append.mp h).elim (fun h => inT_X12 w h) (fun h => absurd h List.not_mem_nil)))
