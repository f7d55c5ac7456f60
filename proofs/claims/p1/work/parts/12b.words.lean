def u_law : List Cond := u_lawW ++ wsX110 ++ wsX80 ++ wsX70 ++ wsX100 ++ wsX10 ++ wsX40 ++ wsX60 ++ wsX90 ++ wsX50 ++ wsX20 ++ wsX30 ++ wsX00 ++ wsX120
theorem iX11_law : ∀ w ∈ wsX110, w ∈ u_law := fun w h => (List.mem_append_left _ (List.mem_append_left _ (List.mem_append_left _ (List.mem_append_left _ (List.mem_append_left _ (List.mem_append_left _ (List.mem_append_left _ (List.mem_append_left _ (List.mem_append_left _ (List.mem_append_left _ (List.mem_append_left _ (List.mem_append_left _ (List.mem_append_right _ h)))))))))))))
set_option maxRecDepth 40000 in
theorem tX11_law : ∀ w ∈ wsX110, w ∈ lw_tbl := zz_pl [633, 635, 637, 639, 641, 643, 645, 647, 649, 651, 653, 655, 657, 659, 661, 663] (by decide +kernel)
theorem iX8_law : ∀ w ∈ wsX80, w ∈ u_law := fun w h => (List.mem_append_left _ (List.mem_append_left _ (List.mem_append_left _ (List.mem_append_left _ (List.mem_append_left _ (List.mem_append_left _ (List.mem_append_left _ (List.mem_append_left _ (List.mem_append_left _ (List.mem_append_left _ (List.mem_append_left _ (List.mem_append_right _ h))))))))))))
set_option maxRecDepth 40000 in
theorem tX8_law : ∀ w ∈ wsX80, w ∈ lw_tbl := zz_pl [236, 238, 240, 242, 244, 246, 248, 250, 252, 254] (by decide +kernel)
theorem iX7_law : ∀ w ∈ wsX70, w ∈ u_law := fun w h => (List.mem_append_left _ (List.mem_append_left _ (List.mem_append_left _ (List.mem_append_left _ (List.mem_append_left _ (List.mem_append_left _ (List.mem_append_left _ (List.mem_append_left _ (List.mem_append_left _ (List.mem_append_left _ (List.mem_append_right _ h)))))))))))
set_option maxRecDepth 40000 in
theorem tX7_law : ∀ w ∈ wsX70, w ∈ lw_tbl := zz_pl [270, 272, 274, 276] (by decide +kernel)
theorem iX10_law : ∀ w ∈ wsX100, w ∈ u_law := fun w h => (List.mem_append_left _ (List.mem_append_left _ (List.mem_append_left _ (List.mem_append_left _ (List.mem_append_left _ (List.mem_append_left _ (List.mem_append_left _ (List.mem_append_left _ (List.mem_append_left _ (List.mem_append_right _ h))))))))))
set_option maxRecDepth 40000 in
theorem tX10_law : ∀ w ∈ wsX100, w ∈ lw_tbl := zz_pl [287, 289] (by decide +kernel)
theorem iX1_law : ∀ w ∈ wsX10, w ∈ u_law := fun w h => (List.mem_append_left _ (List.mem_append_left _ (List.mem_append_left _ (List.mem_append_left _ (List.mem_append_left _ (List.mem_append_left _ (List.mem_append_left _ (List.mem_append_left _ (List.mem_append_right _ h)))))))))
set_option maxRecDepth 40000 in
theorem tX1_law : ∀ w ∈ wsX10, w ∈ lw_tbl := zz_pl [358, 360, 362] (by decide +kernel)
theorem iX4_law : ∀ w ∈ wsX40, w ∈ u_law := fun w h => (List.mem_append_left _ (List.mem_append_left _ (List.mem_append_left _ (List.mem_append_left _ (List.mem_append_left _ (List.mem_append_left _ (List.mem_append_left _ (List.mem_append_right _ h))))))))
set_option maxRecDepth 40000 in
theorem tX4_law : ∀ w ∈ wsX40, w ∈ lw_tbl := zz_pl [326, 328, 330, 332, 334, 336, 338, 340, 342, 344, 346, 348, 350] (by decide +kernel)
theorem iX6_law : ∀ w ∈ wsX60, w ∈ u_law := fun w h => (List.mem_append_left _ (List.mem_append_left _ (List.mem_append_left _ (List.mem_append_left _ (List.mem_append_left _ (List.mem_append_left _ (List.mem_append_right _ h)))))))
set_option maxRecDepth 40000 in
theorem tX6_law : ∀ w ∈ wsX60, w ∈ lw_tbl := zz_pl [435, 437, 439, 441, 443, 445, 447, 449, 451, 453, 455, 457, 459, 461] (by decide +kernel)
theorem iX9_law : ∀ w ∈ wsX90, w ∈ u_law := fun w h => (List.mem_append_left _ (List.mem_append_left _ (List.mem_append_left _ (List.mem_append_left _ (List.mem_append_left _ (List.mem_append_right _ h))))))
set_option maxRecDepth 40000 in
theorem tX9_law : ∀ w ∈ wsX90, w ∈ lw_tbl := zz_pl [478, 480, 482, 484, 486] (by decide +kernel)
theorem iX5_law : ∀ w ∈ wsX50, w ∈ u_law := fun w h => (List.mem_append_left _ (List.mem_append_left _ (List.mem_append_left _ (List.mem_append_left _ (List.mem_append_right _ h)))))
set_option maxRecDepth 40000 in
theorem tX5_law : ∀ w ∈ wsX50, w ∈ lw_tbl := zz_pl [501, 503, 505, 507, 509, 511] (by decide +kernel)
theorem iX2_law : ∀ w ∈ wsX20, w ∈ u_law := fun w h => (List.mem_append_left _ (List.mem_append_left _ (List.mem_append_left _ (List.mem_append_right _ h))))
set_option maxRecDepth 40000 in
theorem tX2_law : ∀ w ∈ wsX20, w ∈ lw_tbl := zz_pl [529, 531, 533, 535] (by decide +kernel)
theorem iX3_law : ∀ w ∈ wsX30, w ∈ u_law := fun w h => (List.mem_append_left _ (List.mem_append_left _ (List.mem_append_right _ h)))
set_option maxRecDepth 40000 in
theorem tX3_law : ∀ w ∈ wsX30, w ∈ lw_tbl := zz_pl [562, 564, 566, 568, 570, 572, 574, 576, 578, 580, 582] (by decide +kernel)
theorem iX0_law : ∀ w ∈ wsX00, w ∈ u_law := fun w h => (List.mem_append_left _ (List.mem_append_right _ h))
set_option maxRecDepth 40000 in
theorem tX0_law : ∀ w ∈ wsX00, w ∈ lw_tbl := zz_pl [602, 604, 606, 608, 610, 612, 614] (by decide +kernel)
theorem iX12_law : ∀ w ∈ wsX120, w ∈ u_law := fun w h => (List.mem_append_right _ h)
set_option maxRecDepth 40000 in
theorem tX12_law : ∀ w ∈ wsX120, w ∈ lw_tbl := zz_pl [1414, 1416, 1418, 1420, 1422, 1424, 1426, 1428, 1430, 1432, 1434, 1436, 1438, 1440, 1442, 1444, 1446, 1448, 1450, 1452, 1454, 1456, 1458, 1460, 1462, 1464, 1466, 1468, 1470, 1472, 1474, 1476, 1478, 1480, 1482, 1484, 1486, 1488, 1490, 1492, 1494, 1496, 1498, 1500, 1502, 1504, 1506, 1508, 1510, 1512, 1514, 1516, 1518, 1520, 1522, 1524, 1526, 1528, 1530, 1532, 1534, 1536, 1538, 1540, 1542, 1544, 1546, 1548, 1550, 1552, 1554, 1556, 1558, 1560, 1562, 1564, 1566, 1568, 1570, 1572] (by decide +kernel)
theorem u_law_up : ∀ w ∈ u_lawW, w ∈ u_law := fun w h => (List.mem_append_left _ (List.mem_append_left _ (List.mem_append_left _ (List.mem_append_left _ (List.mem_append_left _ (List.mem_append_left _ (List.mem_append_left _ (List.mem_append_left _ (List.mem_append_left _ (List.mem_append_left _ (List.mem_append_left _ (List.mem_append_left _ (List.mem_append_left _ h)))))))))))))
theorem u_law_in : ∀ w ∈ u_law, w ∈ lw_tbl := (zz_ap (zz_ap (zz_ap (zz_ap (zz_ap (zz_ap (zz_ap (zz_ap (zz_ap (zz_ap (zz_ap (zz_ap (zz_ap u_law_w tX11_law) tX8_law) tX7_law) tX10_law) tX1_law) tX4_law) tX6_law) tX9_law) tX5_law) tX2_law) tX3_law) tX0_law) tX12_law)
theorem zz_gl (ws : List Cond) (ps : List Nat) (hp : ws = ps.filterMap (fun i => u_lawW[i]?)) (h : ws.all goodWord = true) : GoodIn u_law ws := goodIn_sub (fun w hw => u_law_up w (zz_pl ps hp w hw)) h