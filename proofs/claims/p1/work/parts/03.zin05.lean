set_option maxRecDepth 20000 in
theorem wsL_law0_r61_inL : ∀ w ∈ wsL_law0_r61, w ∈ lw_tbl := fun w h => mem_rr (big := lw_tbl) wsL_law0_r61 [1502, 1504, 49, 1505, 257, 262, 1506, 1507, 1508, 1509, 1511, 50, 1525, 1527, 52, 1537, 1539, 55, 1528, 1533, 1535, 54, 1536, 1540] rfl w h
set_option maxRecDepth 20000 in
theorem wsL_law0_r62_inL : ∀ w ∈ wsL_law0_r62, w ∈ lw_tbl := fun w h => mem_rr (big := lw_tbl) wsL_law0_r62 [941, 937, 1541, 2369, 2370, 2371, 2372, 2373, 2375, 128, 2376, 2377, 2379, 129, 2380, 1832, 1843, 1820, 2381, 2383, 130, 2384, 1816, 1822] rfl w h
set_option maxRecDepth 20000 in
theorem wsL_law0_r63_inL : ∀ w ∈ wsL_law0_r63, w ∈ lw_tbl := fun w h => mem_rr (big := lw_tbl) wsL_law0_r63 [1826, 2385, 2387, 131, 2388, 2389, 2391, 132, 2392, 2393, 2395, 133, 2396, 2397, 2399, 134, 2400, 2401, 2403, 135, 2404, 2405, 2407, 136] rfl w h
set_option maxRecDepth 20000 in
theorem wsL_law0_r64_inL : ∀ w ∈ wsL_law0_r64, w ∈ lw_tbl := fun w h => mem_rr (big := lw_tbl) wsL_law0_r64 [2408, 2409, 2411, 137, 2412, 2413, 2415, 138, 2416, 2417, 2419, 139, 2420, 2421, 2423, 140, 2424, 2425, 2427, 141, 2428, 2429, 2431, 142] rfl w h
set_option maxRecDepth 20000 in
theorem wsL_law0_r65_inL : ∀ w ∈ wsL_law0_r65, w ∈ lw_tbl := fun w h => mem_rr (big := lw_tbl) wsL_law0_r65 [2432, 2433, 2435, 143, 2436, 1837, 1841, 2437, 2439, 144, 2440, 2441, 2443, 145, 2444, 2445, 2447, 146, 2448, 2449, 2451, 147, 2452, 2453] rfl w h
set_option maxRecDepth 20000 in
theorem wsL_law0_r66_inL : ∀ w ∈ wsL_law0_r66, w ∈ lw_tbl := fun w h => mem_rr (big := lw_tbl) wsL_law0_r66 [2455, 148, 2456, 2457, 2459, 149, 2460, 2461, 2463, 150, 2464, 2465, 2467, 151, 2468, 2469, 2471, 152, 2472, 2473, 2475, 153, 2476, 1845] rfl w h
set_option maxRecDepth 20000 in
theorem wsL_law0_r67_inL : ∀ w ∈ wsL_law0_r67, w ∈ lw_tbl := fun w h => mem_rr (big := lw_tbl) wsL_law0_r67 [1851, 1853, 1854, 1646, 1647, 1648, 1649, 1650, 1651, 1652, 559, 553, 1654, 1655, 1656, 1657, 1659, 1660, 1661, 1662, 2477, 2478, 2479, 2480] rfl w h
set_option maxRecDepth 20000 in
theorem wsL_law0_r68_inL : ∀ w ∈ wsL_law0_r68, w ∈ lw_tbl := fun w h => mem_rr (big := lw_tbl) wsL_law0_r68 [620, 621, 622, 623, 556, 2481, 2482, 2483, 2484, 2485, 2487, 154, 2488, 1663, 1664, 1665, 1666, 1667, 1668, 1669, 555, 2489, 2490, 2491] rfl w h
set_option maxRecDepth 20000 in
theorem wsL_law0_r69_inL : ∀ w ∈ wsL_law0_r69, w ∈ lw_tbl := fun w h => mem_rr (big := lw_tbl) wsL_law0_r69 [2492, 624, 625, 626, 627, 561, 2493, 2494, 2495, 2496, 628, 629, 630, 631, 563, 2497, 2498, 2499, 2500, 1671, 1672, 1673, 1674, 1675] rfl w h
set_option maxRecDepth 20000 in
theorem wsL_law0_r70_inL : ∀ w ∈ wsL_law0_r70, w ∈ lw_tbl := fun w h => mem_rr (big := lw_tbl) wsL_law0_r70 [1676, 1677, 926, 961, 1678, 1680, 75, 1681, 959, 952, 950, 954, 1682, 1683, 1684, 1685, 504, 1686, 1688, 76, 1689, 930, 934, 956] rfl w h
set_option maxRecDepth 20000 in
theorem wsL_law0_r71_inL : ∀ w ∈ wsL_law0_r71, w ∈ lw_tbl := fun w h => mem_rr (big := lw_tbl) wsL_law0_r71 [1690, 1691, 1692, 1693, 1694, 1695, 1696, 1697, 1698, 1699, 1700, 250, 259, 254, 264, 1701, 1702, 1703, 1704, 1705, 1706, 409, 412, 421] rfl w h
set_option maxRecDepth 20000 in
theorem wsL_law0_r72_inL : ∀ w ∈ wsL_law0_r72, w ∈ lw_tbl := fun w h => mem_rr (big := lw_tbl) wsL_law0_r72 [426, 1707, 1708, 1710, 77, 1711, 1713, 1715, 78, 1716, 416, 431, 433, 1717, 1718, 1719, 1720, 1721, 1723, 1724, 1725, 1726, 1727, 1728] rfl w h
