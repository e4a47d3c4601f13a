set_option maxRecDepth 20000 in
theorem wsL_law0_r73_inL : ∀ w ∈ wsL_law0_r73, w ∈ lw_tbl := fun w h => mem_rr (big := lw_tbl) wsL_law0_r73 [2501, 2502, 2503, 2504, 2505, 2507, 155, 2508, 1855, 2509, 2511, 156, 2512, 2513, 2515, 157, 2516, 2517, 2519, 158, 2520, 2521, 2523, 159] rfl w h
set_option maxRecDepth 20000 in
theorem wsL_law0_r74_inL : ∀ w ∈ wsL_law0_r74, w ∈ lw_tbl := fun w h => mem_rr (big := lw_tbl) wsL_law0_r74 [2524, 2525, 2527, 160, 2528, 2529, 2531, 161, 2532, 2533, 2535, 162, 2536, 2537, 2539, 163, 2540, 2541, 2543, 164, 2544, 1729, 1730, 1731] rfl w h
set_option maxRecDepth 20000 in
theorem wsL_law0_r75_inL : ∀ w ∈ wsL_law0_r75, w ∈ lw_tbl := fun w h => mem_rr (big := lw_tbl) wsL_law0_r75 [1732, 1733, 1734, 1735, 2545, 2546, 2547, 2548, 1736, 1737, 1738, 1739, 1740, 1741, 1742, 2549, 2550, 2551, 2552] rfl w h
set_option maxRecDepth 20000 in
theorem wsX110_inL : ∀ w ∈ wsX110, w ∈ lw_tbl := fun w h => mem_rr (big := lw_tbl) wsX110 [607, 609, 611, 613, 615, 617] rfl w h
set_option maxRecDepth 20000 in
theorem wsX120_inL : ∀ w ∈ wsX120, w ∈ lw_tbl := fun w h => mem_rr (big := lw_tbl) wsX120 [1862, 1864, 1866, 1868, 1870, 1872, 1874, 1876, 1878, 1880, 1882, 1884, 1886, 1888, 1890, 1892, 1894, 1896, 1898, 1900, 1902, 1904, 1906, 1908, 1910, 1912, 1914, 1916, 1918, 1920, 1922, 1924, 1926, 1928, 1930, 1932, 1934, 1936, 1938, 1940, 1942, 1944, 1946, 1948, 1950, 1952, 1954, 1956, 1958, 1960, 1962, 1964, 1966, 1968, 1970, 1972, 1974, 1976, 1978, 1980, 1982, 1984, 1986, 1988, 1990, 1992, 1994, 1996, 1998, 2000, 2002, 2004, 2006, 2008, 2010, 2012, 2014, 2016, 2018, 2020, 2022, 2024, 2026, 2028, 2030, 2032, 2034, 2036, 2038, 2040, 2042, 2044, 2046, 2048, 2050, 2052, 2054, 2056, 2058, 2060, 2062, 2064, 2066, 2068, 2070, 2072, 2074, 2076, 2078] rfl w h
set_option maxRecDepth 20000 in
theorem wsX50_inL : ∀ w ∈ wsX50, w ∈ lw_tbl := fun w h => mem_rr (big := lw_tbl) wsX50 [314, 316, 318, 320, 322, 324, 326, 328, 330, 332, 334, 336, 338, 340, 342, 344, 346, 348] rfl w h
set_option maxRecDepth 20000 in
theorem wsX20_inL : ∀ w ∈ wsX20, w ∈ lw_tbl := fun w h => mem_rr (big := lw_tbl) wsX20 [480, 482, 484, 486, 488, 490, 492, 494] rfl w h
set_option maxRecDepth 20000 in
theorem wsX60_inL : ∀ w ∈ wsX60, w ∈ lw_tbl := fun w h => mem_rr (big := lw_tbl) wsX60 [505, 507] rfl w h
set_option maxRecDepth 20000 in
theorem wsX30_inL : ∀ w ∈ wsX30, w ∈ lw_tbl := fun w h => mem_rr (big := lw_tbl) wsX30 [564, 566, 568, 570, 572, 574, 576, 578, 580, 582, 584, 586, 588, 590, 592, 594, 596, 598] rfl w h
set_option maxRecDepth 20000 in
theorem wsJx4a65c0_inL : ∀ w ∈ wsJx4a65c0, w ∈ lw_tbl := fun w h => mem_rr (big := lw_tbl) wsJx4a65c0 [235, 231, 233] rfl w h
set_option maxRecDepth 20000 in
theorem wsX100_inL : ∀ w ∈ wsX100, w ∈ lw_tbl := fun w h => mem_rr (big := lw_tbl) wsX100 [265, 267, 269, 271] rfl w h
set_option maxRecDepth 20000 in
theorem wsX70_inL : ∀ w ∈ wsX70, w ∈ lw_tbl := fun w h => mem_rr (big := lw_tbl) wsX70 [367, 369, 371] rfl w h
