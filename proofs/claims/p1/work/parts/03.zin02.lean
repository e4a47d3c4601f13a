set_option maxRecDepth 20000 in
theorem wsL_law0_r25_inL : ∀ w ∈ wsL_law0_r25, w ∈ lw_tbl := fun w h => mem_rr (big := lw_tbl) wsL_law0_r25 [1052, 1007, 1008, 190, 1009, 1010, 1013, 1014, 1015, 1016, 1017, 1018, 1019, 1020, 2574, 1021, 1040, 1041, 1042, 1043, 1044, 1046, 1047, 1048] rfl w h
set_option maxRecDepth 20000 in
theorem wsL_law0_r26_inL : ∀ w ∈ wsL_law0_r26, w ∈ lw_tbl := fun w h => mem_rr (big := lw_tbl) wsL_law0_r26 [1049, 1050, 2156, 2157, 2158, 2159, 1771, 2160, 2162, 85, 2163, 1053, 1054, 1055, 1056, 1057, 1058, 1059, 946, 1061, 1063, 12, 1064, 907] rfl w h
set_option maxRecDepth 20000 in
theorem wsL_law0_r27_inL : ∀ w ∈ wsL_law0_r27, w ∈ lw_tbl := fun w h => mem_rr (big := lw_tbl) wsL_law0_r27 [1066, 1067, 1068, 1069, 1070, 1071, 192, 1072, 1073, 1074, 193, 1075, 1076, 1077, 1078, 1079, 2164, 2165, 2166, 2167, 2168, 2170, 86, 2171] rfl w h
set_option maxRecDepth 20000 in
theorem wsL_law0_r28_inL : ∀ w ∈ wsL_law0_r28, w ∈ lw_tbl := fun w h => mem_rr (big := lw_tbl) wsL_law0_r28 [1080, 1081, 1082, 1083, 1084, 1085, 1086, 2172, 2173, 2174, 2175, 1087, 1088, 1089, 1090, 1091, 1092, 1093, 2176, 2177, 2178, 2179, 1095, 1096] rfl w h
set_option maxRecDepth 20000 in
theorem wsL_law0_r29_inL : ∀ w ∈ wsL_law0_r29, w ∈ lw_tbl := fun w h => mem_rr (big := lw_tbl) wsL_law0_r29 [1097, 1098, 1099, 1100, 1101, 410, 1102, 1103, 1104, 1105, 925, 309, 1112, 960, 958, 311, 955, 948, 408, 1106, 1108, 13, 1109, 1113] rfl w h
set_option maxRecDepth 20000 in
theorem wsL_law0_r30_inL : ∀ w ∈ wsL_law0_r30, w ∈ lw_tbl := fun w h => mem_rr (big := lw_tbl) wsL_law0_r30 [932, 1110, 1111, 1114, 1116, 14, 1117, 928, 936, 940, 1118, 1119, 1120, 1121, 1122, 1123, 1124, 1125, 365, 1126, 1127, 1128, 1129, 1130] rfl w h
set_option maxRecDepth 20000 in
theorem wsL_law0_r31_inL : ∀ w ∈ wsL_law0_r31, w ∈ lw_tbl := fun w h => mem_rr (big := lw_tbl) wsL_law0_r31 [1131, 1132, 1133, 1135, 1136, 1137, 1138, 1139, 942, 938, 1140, 1141, 1142, 1143, 1144, 1145, 1147, 15, 1148, 944, 1149, 1150, 1151, 1152] rfl w h
set_option maxRecDepth 20000 in
theorem wsL_law0_r32_inL : ∀ w ∈ wsL_law0_r32, w ∈ lw_tbl := fun w h => mem_rr (big := lw_tbl) wsL_law0_r32 [1153, 1154, 1155, 1156, 1157, 1158, 1160, 16, 1161, 248, 280, 275, 278, 385, 388, 1162, 1163, 1164, 1165, 1166, 1167, 1168, 1169, 1170] rfl w h
set_option maxRecDepth 20000 in
theorem wsL_law0_r33_inL : ∀ w ∈ wsL_law0_r33, w ∈ lw_tbl := fun w h => mem_rr (big := lw_tbl) wsL_law0_r33 [1172, 1173, 1174, 1175, 1176, 1177, 1178, 1179, 1180, 1181, 1182, 1183, 1184, 1185, 1186, 1188, 17, 1189, 1192, 1193, 1195, 1197, 18, 1198] rfl w h
set_option maxRecDepth 20000 in
theorem wsL_law0_r34_inL : ∀ w ∈ wsL_law0_r34, w ∈ lw_tbl := fun w h => mem_rr (big := lw_tbl) wsL_law0_r34 [1199, 1200, 1201, 1202, 1203, 1204, 1205, 1206, 1207, 1208, 1209, 1210, 1211, 1213, 19, 1214, 1215, 1216, 1217, 1219, 20, 1220, 252, 256] rfl w h
set_option maxRecDepth 20000 in
theorem wsL_law0_r35_inL : ∀ w ∈ wsL_law0_r35, w ∈ lw_tbl := fun w h => mem_rr (big := lw_tbl) wsL_law0_r35 [261, 285, 288, 1221, 1223, 1224, 1225, 1226, 1227, 1228, 1229, 1230, 1231, 1232, 1233, 1234, 1235, 1236, 1237, 1238, 1239, 1241, 21, 1242] rfl w h
set_option maxRecDepth 20000 in
theorem wsL_law0_r36_inL : ∀ w ∈ wsL_law0_r36, w ∈ lw_tbl := fun w h => mem_rr (big := lw_tbl) wsL_law0_r36 [460, 422, 427, 298, 1243, 1245, 22, 1246, 1247, 1249, 23, 1250, 1251, 1252, 1253, 1255, 24, 1256, 1257, 1258, 1259, 1260, 1261, 1263] rfl w h
