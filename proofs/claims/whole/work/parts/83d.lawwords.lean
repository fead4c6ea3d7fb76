set_option maxRecDepth 20000 in
theorem in_wsL_law0_r21 : GoodIn lw_tbl wsL_law0_r21 := goodIn_p wsL_law0_r21 [804, 808, 811, 817, 821] rfl (by decide +kernel)
set_option maxRecDepth 20000 in
theorem in_wsL_law0_r22 : GoodIn lw_tbl wsL_law0_r22 := goodIn_p wsL_law0_r22 [824, 828, 832, 836, 843, 686] rfl (by decide +kernel)
set_option maxRecDepth 20000 in
theorem in_wsL_law0_r23 : GoodIn lw_tbl wsL_law0_r23 := goodIn_p wsL_law0_r23 [174, 847, 178, 851, 182, 855] rfl (by decide +kernel)
set_option maxRecDepth 20000 in
theorem in_wsL_law0_r24 : GoodIn lw_tbl wsL_law0_r24 := goodIn_p wsL_law0_r24 [194, 859, 202, 863, 206, 867] rfl (by decide +kernel)
set_option maxRecDepth 20000 in
theorem in_wsL_law0_r25 : GoodIn lw_tbl wsL_law0_r25 := goodIn_p wsL_law0_r25 [214, 871, 218, 875, 226] rfl (by decide +kernel)
set_option maxRecDepth 20000 in
theorem in_wsL_law0_r26 : GoodIn lw_tbl wsL_law0_r26 := goodIn_p wsL_law0_r26 [880, 230, 884] rfl (by decide +kernel)
