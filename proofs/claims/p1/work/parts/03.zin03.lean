set_option maxRecDepth 20000 in
theorem wsL_law0_r37_inL : ∀ w ∈ wsL_law0_r37, w ∈ lw_tbl := fun w h => mem_rr (big := lw_tbl) wsL_law0_r37 [25, 1265, 1267, 26, 1273, 1275, 28, 1286, 1288, 31, 1264, 1269, 1271, 27, 1272, 1268, 291, 1289, 1290, 1292, 32, 1293, 1281, 1283] rfl w h
set_option maxRecDepth 20000 in
theorem wsL_law0_r38_inL : ∀ w ∈ wsL_law0_r38, w ∈ lw_tbl := fun w h => mem_rr (big := lw_tbl) wsL_law0_r38 [30, 1284, 1285, 1276, 294, 1277, 1279, 29, 1280, 1295, 1296, 1297, 1298, 1299, 1300, 1301, 1302, 1303, 1304, 1306, 33, 1307, 413, 423] rfl w h
set_option maxRecDepth 20000 in
theorem wsL_law0_r39_inL : ∀ w ∈ wsL_law0_r39, w ∈ lw_tbl := fun w h => mem_rr (big := lw_tbl) wsL_law0_r39 [428, 417, 1308, 1309, 1310, 1311, 1313, 34, 1314, 389, 386, 1315, 1316, 1317, 1318, 1319, 1320, 1321, 1325, 1326, 1328, 35, 1329, 1331] rfl w h
set_option maxRecDepth 20000 in
theorem wsL_law0_r40_inL : ∀ w ∈ wsL_law0_r40, w ∈ lw_tbl := fun w h => mem_rr (big := lw_tbl) wsL_law0_r40 [1332, 1333, 1334, 1335, 1336, 1337, 1338, 1339, 1340, 1341, 1342, 1343, 1344, 1345, 1347, 36, 1348, 1349, 1351, 37, 1352, 1353, 1354, 1355] rfl w h
set_option maxRecDepth 20000 in
theorem wsL_law0_r41_inL : ∀ w ∈ wsL_law0_r41, w ∈ lw_tbl := fun w h => mem_rr (big := lw_tbl) wsL_law0_r41 [1356, 1357, 1359, 38, 1360, 1361, 1362, 1363, 1364, 1365, 1367, 39, 1368, 1369, 1370, 1371, 1372, 1373, 1375, 40, 1376, 1377, 1379, 41] rfl w h
set_option maxRecDepth 20000 in
theorem wsL_law0_r42_inL : ∀ w ∈ wsL_law0_r42, w ∈ lw_tbl := fun w h => mem_rr (big := lw_tbl) wsL_law0_r42 [1380, 1381, 1382, 1383, 1384, 1385, 1386, 1387, 1388, 1389, 1390, 1391, 1392, 1393, 1394, 1395, 1396, 1398, 42, 1399, 1400, 1401, 1402, 1403] rfl w h
set_option maxRecDepth 20000 in
theorem wsL_law0_r43_inL : ∀ w ∈ wsL_law0_r43, w ∈ lw_tbl := fun w h => mem_rr (big := lw_tbl) wsL_law0_r43 [1404, 1406, 43, 1407, 1408, 1409, 1410, 1411, 1412, 1413, 1414, 1415, 1416, 1417, 1419, 44, 1420, 1421, 1423, 45, 1424, 1425, 1426, 1427] rfl w h
set_option maxRecDepth 20000 in
theorem wsL_law0_r44_inL : ∀ w ∈ wsL_law0_r44, w ∈ lw_tbl := fun w h => mem_rr (big := lw_tbl) wsL_law0_r44 [1432, 1428, 1429, 1430, 1433, 1434, 1435, 1436, 1437, 1438, 1439, 1440, 2180, 2181, 2182, 2183, 2184, 2186, 87, 2187, 2188, 2190, 88, 2191] rfl w h
set_option maxRecDepth 20000 in
theorem wsL_law0_r45_inL : ∀ w ∈ wsL_law0_r45, w ∈ lw_tbl := fun w h => mem_rr (big := lw_tbl) wsL_law0_r45 [1779, 2192, 2194, 89, 2195, 2196, 2197, 2198, 2200, 90, 2201, 2202, 2204, 91, 2205, 2206, 2208, 92, 2209, 2210, 2212, 93, 2213, 2214] rfl w h
set_option maxRecDepth 20000 in
theorem wsL_law0_r46_inL : ∀ w ∈ wsL_law0_r46, w ∈ lw_tbl := fun w h => mem_rr (big := lw_tbl) wsL_law0_r46 [2216, 94, 2217, 2218, 2220, 95, 2221, 2222, 2224, 96, 2225, 2226, 2228, 97, 2229, 1795, 2230, 2232, 98, 2233, 2234, 2235, 2236, 2237] rfl w h
set_option maxRecDepth 20000 in
theorem wsL_law0_r47_inL : ∀ w ∈ wsL_law0_r47, w ∈ lw_tbl := fun w h => mem_rr (big := lw_tbl) wsL_law0_r47 [2239, 99, 2240, 2241, 2243, 100, 2244, 1788, 1789, 2245, 2247, 101, 2248, 2249, 2251, 102, 2252, 2253, 2255, 103, 2256, 1793, 1794, 2257] rfl w h
set_option maxRecDepth 20000 in
theorem wsL_law0_r48_inL : ∀ w ∈ wsL_law0_r48, w ∈ lw_tbl := fun w h => mem_rr (big := lw_tbl) wsL_law0_r48 [2259, 104, 2260, 2261, 2263, 105, 2264, 2265, 2267, 106, 2268, 2269, 2271, 107, 2272, 2273, 2275, 108, 2276, 2277, 2279, 109, 2280, 2281] rfl w h
