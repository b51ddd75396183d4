set_option maxRecDepth 20000 in
theorem wl_in_57 : ∀ w ∈ wsL_law_r57, w ∈ lw_tbl := fun w h => (goodIn_p wsL_law_r57 [1257, 1261, 2009, 2013, 2017, 1265] (by decide +kernel) (by decide +kernel) w h).1
set_option maxRecDepth 20000 in
theorem wl_in_58 : ∀ w ∈ wsL_law_r58, w ∈ lw_tbl := fun w h => (goodIn_p wsL_law_r58 [1269, 1274, 1278, 2021, 1282] (by decide +kernel) (by decide +kernel) w h).1
set_option maxRecDepth 20000 in
theorem wl_in_59 : ∀ w ∈ wsL_law_r59, w ∈ lw_tbl := fun w h => (goodIn_p wsL_law_r59 [1286, 1290, 2025, 2029, 1295] (by decide +kernel) (by decide +kernel) w h).1
set_option maxRecDepth 20000 in
theorem wl_in_60 : ∀ w ∈ wsL_law_r60, w ∈ lw_tbl := fun w h => (goodIn_p wsL_law_r60 [1299, 1303, 2033, 1307, 1311, 1315] (by decide +kernel) (by decide +kernel) w h).1
set_option maxRecDepth 20000 in
theorem wl_in_61 : ∀ w ∈ wsL_law_r61, w ∈ lw_tbl := fun w h => (goodIn_p wsL_law_r61 [2037, 2041, 1320, 1324, 1327] (by decide +kernel) (by decide +kernel) w h).1
set_option maxRecDepth 20000 in
theorem wl_in_62 : ∀ w ∈ wsL_law_r62, w ∈ lw_tbl := fun w h => (goodIn_p wsL_law_r62 [1334, 2045, 2048, 2052, 1338, 2056] (by decide +kernel) (by decide +kernel) w h).1
set_option maxRecDepth 20000 in
theorem wl_in_63 : ∀ w ∈ wsL_law_r63, w ∈ lw_tbl := fun w h => (goodIn_p wsL_law_r63 [1342, 1346, 1350, 1354, 1358] (by decide +kernel) (by decide +kernel) w h).1
set_option maxRecDepth 20000 in
theorem wl_in_64 : ∀ w ∈ wsL_law_r64, w ∈ lw_tbl := fun w h => (goodIn_p wsL_law_r64 [1362, 2060, 2064, 1366, 2068, 1370] (by decide +kernel) (by decide +kernel) w h).1
set_option maxRecDepth 20000 in
theorem wl_in_65 : ∀ w ∈ wsL_law_r65, w ∈ lw_tbl := fun w h => (goodIn_p wsL_law_r65 [2076, 1374, 1378, 1382, 2080] (by decide +kernel) (by decide +kernel) w h).1
set_option maxRecDepth 20000 in
theorem wl_in_66 : ∀ w ∈ wsL_law_r66, w ∈ lw_tbl := fun w h => (goodIn_p wsL_law_r66 [1386, 1390, 1394, 2084, 1401] (by decide +kernel) (by decide +kernel) w h).1
set_option maxRecDepth 20000 in
theorem wl_in_67 : ∀ w ∈ wsL_law_r67, w ∈ lw_tbl := fun w h => (goodIn_p wsL_law_r67 [2088] (by decide +kernel) (by decide +kernel) w h).1
set_option maxRecDepth 20000 in
theorem wl_inX0 : ∀ w ∈ wsX00, w ∈ lw_tbl := fun w h => (goodIn_p wsX00 [] (by decide +kernel) (by decide +kernel) w h).1
set_option maxRecDepth 20000 in
theorem wl_inX1 : ∀ w ∈ wsX10, w ∈ lw_tbl := fun w h => (goodIn_p wsX10 [] (by decide +kernel) (by decide +kernel) w h).1
set_option maxRecDepth 20000 in
theorem wl_inX2 : ∀ w ∈ wsX20, w ∈ lw_tbl := fun w h => (goodIn_p wsX20 [] (by decide +kernel) (by decide +kernel) w h).1
