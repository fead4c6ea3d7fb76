set_option maxRecDepth 20000 in
theorem in_wsL_law0_r15 : GoodIn lw_tbl wsL_law0_r15 := goodIn_p wsL_law0_r15 [583, 586, 589, 595, 602] rfl (by decide +kernel)
set_option maxRecDepth 20000 in
theorem in_wsL_law0_r16 : GoodIn lw_tbl wsL_law0_r16 := goodIn_p wsL_law0_r16 [606, 610, 698, 702, 707] rfl (by decide +kernel)
set_option maxRecDepth 20000 in
theorem in_wsL_law0_r17 : GoodIn lw_tbl wsL_law0_r17 := goodIn_p wsL_law0_r17 [711, 715, 721, 726] rfl (by decide +kernel)
set_option maxRecDepth 20000 in
theorem in_wsL_law0_r18 : GoodIn lw_tbl wsL_law0_r18 := goodIn_p wsL_law0_r18 [730, 734, 738, 741, 746, 750, 754] rfl (by decide +kernel)
set_option maxRecDepth 20000 in
theorem in_wsL_law0_r19 : GoodIn lw_tbl wsL_law0_r19 := goodIn_p wsL_law0_r19 [758, 762, 766, 770, 774] rfl (by decide +kernel)
set_option maxRecDepth 20000 in
theorem in_wsL_law0_r20 : GoodIn lw_tbl wsL_law0_r20 := goodIn_p wsL_law0_r20 [777, 781, 788, 792, 796, 800] rfl (by decide +kernel)
