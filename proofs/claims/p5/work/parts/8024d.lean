set_option maxRecDepth 20000 in
theorem wl_in_43 : ∀ w ∈ wsL_law_r43, w ∈ lw_tbl := fun w h => (goodIn_p wsL_law_r43 [1069, 1073, 1077, 1083, 1087] (by decide +kernel) (by decide +kernel) w h).1
set_option maxRecDepth 20000 in
theorem wl_in_44 : ∀ w ∈ wsL_law_r44, w ∈ lw_tbl := fun w h => (goodIn_p wsL_law_r44 [1091, 1095, 1888] (by decide +kernel) (by decide +kernel) w h).1
set_option maxRecDepth 20000 in
theorem wl_in_45 : ∀ w ∈ wsL_law_r45, w ∈ lw_tbl := fun w h => (goodIn_p wsL_law_r45 [1892, 1896, 1900, 1904, 1908] (by decide +kernel) (by decide +kernel) w h).1
set_option maxRecDepth 20000 in
theorem wl_in_46 : ∀ w ∈ wsL_law_r46, w ∈ lw_tbl := fun w h => (goodIn_p wsL_law_r46 [1912, 1916, 1920, 1925, 1929, 1933] (by decide +kernel) (by decide +kernel) w h).1
set_option maxRecDepth 20000 in
theorem wl_in_47 : ∀ w ∈ wsL_law_r47, w ∈ lw_tbl := fun w h => (goodIn_p wsL_law_r47 [1937, 1941, 1101, 1945, 1105, 1949] (by decide +kernel) (by decide +kernel) w h).1
set_option maxRecDepth 20000 in
theorem wl_in_48 : ∀ w ∈ wsL_law_r48, w ∈ lw_tbl := fun w h => (goodIn_p wsL_law_r48 [1109, 1953, 1113, 1117, 1120, 1124] (by decide +kernel) (by decide +kernel) w h).1
set_option maxRecDepth 20000 in
theorem wl_in_49 : ∀ w ∈ wsL_law_r49, w ∈ lw_tbl := fun w h => (goodIn_p wsL_law_r49 [1128, 1132, 1136, 1142] (by decide +kernel) (by decide +kernel) w h).1
set_option maxRecDepth 20000 in
theorem wl_in_50 : ∀ w ∈ wsL_law_r50, w ∈ lw_tbl := fun w h => (goodIn_p wsL_law_r50 [1147, 1957, 1961, 1965, 1969, 1151] (by decide +kernel) (by decide +kernel) w h).1
set_option maxRecDepth 20000 in
theorem wl_in_51 : ∀ w ∈ wsL_law_r51, w ∈ lw_tbl := fun w h => (goodIn_p wsL_law_r51 [1973, 1155, 1159, 1163, 1167] (by decide +kernel) (by decide +kernel) w h).1
set_option maxRecDepth 20000 in
theorem wl_in_52 : ∀ w ∈ wsL_law_r52, w ∈ lw_tbl := fun w h => (goodIn_p wsL_law_r52 [1171, 1977, 1981, 1175, 1985, 1179] (by decide +kernel) (by decide +kernel) w h).1
set_option maxRecDepth 20000 in
theorem wl_in_53 : ∀ w ∈ wsL_law_r53, w ∈ lw_tbl := fun w h => (goodIn_p wsL_law_r53 [1183, 1188, 1207, 1212] (by decide +kernel) (by decide +kernel) w h).1
set_option maxRecDepth 20000 in
theorem wl_in_54 : ∀ w ∈ wsL_law_r54, w ∈ lw_tbl := fun w h => (goodIn_p wsL_law_r54 [1216, 1220, 1224, 1229] (by decide +kernel) (by decide +kernel) w h).1
set_option maxRecDepth 20000 in
theorem wl_in_55 : ∀ w ∈ wsL_law_r55, w ∈ lw_tbl := fun w h => (goodIn_p wsL_law_r55 [1233, 1237, 1989, 1993, 1997, 1241] (by decide +kernel) (by decide +kernel) w h).1
set_option maxRecDepth 20000 in
theorem wl_in_56 : ∀ w ∈ wsL_law_r56, w ∈ lw_tbl := fun w h => (goodIn_p wsL_law_r56 [2001, 1245, 1249, 2005, 1253] (by decide +kernel) (by decide +kernel) w h).1
