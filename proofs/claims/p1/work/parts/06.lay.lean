theorem inW_0 : ∀ w ∈ wsX00, w ∈ Wd := wdS [435, 437, 439, 441, 443, 445, 447, 449, 451, 453, 455, 457, 459] (by decide +kernel) (by decide +kernel)
theorem inW_1 : ∀ w ∈ wsX10, w ∈ Wd := wdS [508, 510, 512, 514, 516, 518, 520, 522, 524, 526, 528] (by decide +kernel) (by decide +kernel)
theorem inW_2 : ∀ w ∈ wsX20, w ∈ Wd := wdS [1078, 1080, 1082, 1084, 1086] (by decide +kernel) (by decide +kernel)
theorem inW_3 : ∀ w ∈ wsX30, w ∈ Wd := wdS [248, 250, 252, 254, 256, 258, 260, 262, 264, 266] (by decide +kernel) (by decide +kernel)
theorem inW_4 : ∀ w ∈ wsX40, w ∈ Wd := wdS [552, 554, 556, 558, 560, 562, 564, 566, 568, 570, 572, 574] (by decide +kernel) (by decide +kernel)
theorem inW_5 : ∀ w ∈ wsX50, w ∈ Wd := wdS [182, 184, 186, 188, 190, 192, 194, 196, 198] (by decide +kernel) (by decide +kernel)
theorem inW_6 : ∀ w ∈ wsX60, w ∈ Wd := wdS [865, 867, 869] (by decide +kernel) (by decide +kernel)
theorem inW_7 : ∀ w ∈ wsX70, w ∈ Wd := wdS [215, 217, 219, 221, 223] (by decide +kernel) (by decide +kernel)
theorem inW_8 : ∀ w ∈ wsX80, w ∈ Wd := wdS [122, 124, 126] (by decide +kernel) (by decide +kernel)
theorem inW_9 : ∀ w ∈ wsX90, w ∈ Wd := wdS [482, 484, 486, 488] (by decide +kernel) (by decide +kernel)
theorem inW_10 : ∀ w ∈ wsX100, w ∈ Wd := wdS [146, 148, 150, 152, 154, 156, 158] (by decide +kernel) (by decide +kernel)
theorem inW_11 : ∀ w ∈ wsX110, w ∈ Wd := wdS [285, 287, 289, 291, 293, 295, 297, 299, 301, 303, 305, 307, 309, 311, 313, 315] (by decide +kernel) (by decide +kernel)
theorem inW_12 : ∀ w ∈ wsX120, w ∈ Wd := wdS [1212, 1214, 1216, 1218, 1220, 1222, 1224, 1226, 1228, 1230, 1232, 1234, 1236, 1238, 1240, 1242, 1244, 1246, 1248, 1250, 1252, 1254, 1256, 1258, 1260, 1262, 1264, 1266, 1268, 1270, 1272, 1274, 1276, 1278, 1280, 1282, 1284, 1286, 1288, 1290, 1292, 1294, 1296, 1298, 1300, 1302, 1304, 1306, 1308, 1310, 1312, 1314, 1316, 1318, 1320, 1322, 1324, 1326, 1328, 1330, 1332, 1334, 1336, 1338, 1340, 1342, 1344, 1346, 1348, 1350, 1352, 1354, 1356, 1358, 1360, 1362, 1364, 1366, 1368, 1370, 1372, 1374, 1376, 1378, 1380, 1382, 1384, 1386, 1388, 1390, 1392, 1394] (by decide +kernel) (by decide +kernel)
def nwX0 : List Value := [.int 0, .int 0, .int 0, .int 0, .int 0, .int 0, .null, .null, .int 0, .int 0, .int 0, .int 0, .int 0]
theorem nwX0_ok : ∀ j, j < 13 → defaultValue (tyX0 j) = vp_V nwX0 j := by decide +kernel
def nwX1 : List Value := [.int 0, .null, .null, .null, .null, .null, .null, .null, .int 0, .int 0, .int 0]
theorem nwX1_ok : ∀ j, j < 11 → defaultValue (tyX1 j) = vp_V nwX1 j := by decide +kernel
def nwX2 : List Value := [.int 0, .int 0, .int 0, .int 0, .int 0]
theorem nwX2_ok : ∀ j, j < 5 → defaultValue (tyX2 j) = vp_V nwX2 j := by decide +kernel
def nwX3 : List Value := [.null, .null, .null, .null, .null, .null, .int 0, .int 0, .int 0, .int 0]
theorem nwX3_ok : ∀ j, j < 10 → defaultValue (tyX3 j) = vp_V nwX3 j := by decide +kernel
def nwX4 : List Value := [.null, .int 0, .int 0, .null, .null, .null, .null, .null, .null, .null, .int 0, .int 0]
theorem nwX4_ok : ∀ j, j < 12 → defaultValue (tyX4 j) = vp_V nwX4 j := by decide +kernel
def nwX5 : List Value := [.null, .int 0, .int 0, .int 0, .null, .int 0, .int 0, .int 0, .int 0]
theorem nwX5_ok : ∀ j, j < 9 → defaultValue (tyX5 j) = vp_V nwX5 j := by decide +kernel
def nwX6 : List Value := [.int 0, .int 0, .null]
theorem nwX6_ok : ∀ j, j < 3 → defaultValue (tyX6 j) = vp_V nwX6 j := by decide +kernel
def nwX7 : List Value := [.null, .null, .null, .null, .int 0]
theorem nwX7_ok : ∀ j, j < 5 → defaultValue (tyX7 j) = vp_V nwX7 j := by decide +kernel
def nwX8 : List Value := [.null, .null, .int 0]
theorem nwX8_ok : ∀ j, j < 3 → defaultValue (tyX8 j) = vp_V nwX8 j := by decide +kernel
def nwX9 : List Value := [.int 0, .long 0, .int 0, .int 0]
theorem nwX9_ok : ∀ j, j < 4 → defaultValue (tyX9 j) = vp_V nwX9 j := by decide +kernel
def nwX10 : List Value := [.null, .null, .null, .null, .int 0, .int 0, .int 0]
theorem nwX10_ok : ∀ j, j < 7 → defaultValue (tyX10 j) = vp_V nwX10 j := by decide +kernel
def nwX11 : List Value := [.null, .null, .null, .null, .null, .null, .null, .null, .null, .null, .int 0, .int 0, .int 0, .int 0, .int 0, .int 0]
theorem nwX11_ok : ∀ j, j < 16 → defaultValue (tyX11 j) = vp_V nwX11 j := by decide +kernel
def nwX12 : List Value := [.int 0, .int 0, .null, .null, .int 0, .null, .null, .null, .null, .null, .int 0, .null, .null, .null, .null, .null, .null, .null, .null, .null, .null, .null, .null, .null, .null, .null, .null, .null, .null, .null, .null, .null, .null, .int 0, .long 0, .int 0, .int 0, .int 0, .null, .null, .null, .int 0, .int 0, .int 0, .null, .int 0, .int 0, .int 0, .int 0, .null, .int 0, .int 0, .int 0, .null, .null, .null, .int 0, .int 0, .null, .null, .null, .null, .int 0, .null, .null, .null, .null, .null, .null, .null, .int 0, .null, .null, .null, .null, .null, .null, .null, .null, .null, .null, .null, .int 0, .int 0, .null, .null, .int 0, .null, .null, .null, .null, .null]
theorem nwX12_ok : ∀ j, j < 92 → defaultValue (tyX12 j) = vp_V nwX12 j := by decide +kernel
