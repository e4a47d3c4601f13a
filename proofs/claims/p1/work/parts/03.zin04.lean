set_option maxRecDepth 20000 in
theorem wsL_law0_r49_inL : ∀ w ∈ wsL_law0_r49, w ∈ lw_tbl := fun w h => mem_rr (big := lw_tbl) wsL_law0_r49 [2283, 110, 2284, 2285, 2287, 111, 2288, 2289, 2291, 112, 2292, 2293, 2295, 113, 2296, 2297, 2299, 114, 2300, 2301, 2303, 115, 2304, 2305] rfl w h
set_option maxRecDepth 20000 in
theorem wsL_law0_r50_inL : ∀ w ∈ wsL_law0_r50, w ∈ lw_tbl := fun w h => mem_rr (big := lw_tbl) wsL_law0_r50 [2307, 116, 2308, 2309, 2311, 117, 2312, 2313, 2315, 118, 2316, 2317, 2319, 119, 2320, 2321, 2323, 120, 2324, 2325, 2327, 121, 2328, 2329] rfl w h
set_option maxRecDepth 20000 in
theorem wsL_law0_r51_inL : ∀ w ∈ wsL_law0_r51, w ∈ lw_tbl := fun w h => mem_rr (big := lw_tbl) wsL_law0_r51 [2331, 122, 2332, 2333, 2335, 123, 2336, 2337, 2339, 124, 2340, 2341, 2343, 125, 2344, 1441, 1442, 1443, 1444, 1445, 1446, 1447, 414, 1448] rfl w h
set_option maxRecDepth 20000 in
theorem wsL_law0_r52_inL : ∀ w ∈ wsL_law0_r52, w ∈ lw_tbl := fun w h => mem_rr (big := lw_tbl) wsL_law0_r52 [1449, 1450, 1452, 1453, 1454, 1455, 2345, 2346, 2347, 2348, 2349, 2351, 126, 2352, 2353, 2355, 127, 2356, 1456, 1457, 1458, 1459, 1460, 1461] rfl w h
set_option maxRecDepth 20000 in
theorem wsL_law0_r53_inL : ∀ w ∈ wsL_law0_r53, w ∈ lw_tbl := fun w h => mem_rr (big := lw_tbl) wsL_law0_r53 [1462, 424, 429, 1463, 2357, 2358, 2359, 2360, 1464, 1465, 1466, 1467, 1468, 1469, 1470, 419, 2361, 2362, 2363, 2364, 1471, 1472, 1473, 1474] rfl w h
set_option maxRecDepth 20000 in
theorem wsL_law0_r54_inL : ∀ w ∈ wsL_law0_r54, w ∈ lw_tbl := fun w h => mem_rr (big := lw_tbl) wsL_law0_r54 [1475, 1476, 1477, 2365, 2366, 2367, 2368, 1478, 1479, 1480, 1481, 1482, 1483, 1484, 606, 1485, 1486, 1487, 1488, 549, 551, 1489, 1491, 46] rfl w h
set_option maxRecDepth 20000 in
theorem wsL_law0_r55_inL : ∀ w ∈ wsL_law0_r55, w ∈ lw_tbl := fun w h => mem_rr (big := lw_tbl) wsL_law0_r55 [1492, 1493, 1495, 47, 1543, 1545, 56, 1546, 1547, 1549, 57, 1550, 1551, 1529, 1531, 53, 1532, 1552, 1554, 58, 1555, 1556, 1558, 59] rfl w h
set_option maxRecDepth 20000 in
theorem wsL_law0_r56_inL : ∀ w ∈ wsL_law0_r56, w ∈ lw_tbl := fun w h => mem_rr (big := lw_tbl) wsL_law0_r56 [1559, 1560, 1562, 60, 1563, 299, 1564, 1566, 61, 1567, 1497, 1499, 48, 1500, 1568, 1570, 62, 1571, 1572, 1574, 63, 1575, 1576, 1578] rfl w h
set_option maxRecDepth 20000 in
theorem wsL_law0_r57_inL : ∀ w ∈ wsL_law0_r57, w ∈ lw_tbl := fun w h => mem_rr (big := lw_tbl) wsL_law0_r57 [64, 1579, 560, 562, 1513, 1515, 51, 1516, 949, 418, 1580, 1582, 65, 1583, 1584, 1586, 66, 1587, 527, 557, 1588, 1590, 67, 1591] rfl w h
set_option maxRecDepth 20000 in
theorem wsL_law0_r58_inL : ∀ w ∈ wsL_law0_r58, w ∈ lw_tbl := fun w h => mem_rr (big := lw_tbl) wsL_law0_r58 [550, 1592, 1594, 68, 1595, 1596, 1598, 69, 1599, 286, 289, 1600, 1601, 1602, 1603, 526, 1613, 1614, 1615, 1616, 1604, 1605, 1606, 1607] rfl w h
set_option maxRecDepth 20000 in
theorem wsL_law0_r59_inL : ∀ w ∈ wsL_law0_r59, w ∈ lw_tbl := fun w h => mem_rr (big := lw_tbl) wsL_law0_r59 [1608, 1609, 1610, 1612, 1617, 1619, 70, 1620, 1621, 1623, 71, 1625, 1627, 72, 1629, 1631, 73, 1624, 292, 1517, 1518, 1519, 1520, 1521] rfl w h
set_option maxRecDepth 20000 in
theorem wsL_law0_r60_inL : ∀ w ∈ wsL_law0_r60, w ∈ lw_tbl := fun w h => mem_rr (big := lw_tbl) wsL_law0_r60 [1522, 1523, 1524, 1632, 1633, 1634, 1635, 1636, 1628, 295, 1637, 1639, 74, 1640, 1641, 1642, 1643, 1644, 1645, 1512, 933, 1496, 929, 1501] rfl w h
