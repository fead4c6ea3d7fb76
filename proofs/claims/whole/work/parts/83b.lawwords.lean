set_option maxRecDepth 20000 in
theorem in_wsL_law0_r8 : GoodIn lw_tbl wsL_law0_r8 := goodIn_p wsL_law0_r8 [385, 392, 396, 400, 407] rfl (by decide +kernel)
set_option maxRecDepth 20000 in
theorem in_wsL_law0_r9 : GoodIn lw_tbl wsL_law0_r9 := goodIn_p wsL_law0_r9 [190, 411, 415, 419, 424, 428] rfl (by decide +kernel)
set_option maxRecDepth 20000 in
theorem in_wsL_law0_r10 : GoodIn lw_tbl wsL_law0_r10 := goodIn_p wsL_law0_r10 [488, 432, 436, 210, 456] rfl (by decide +kernel)
set_option maxRecDepth 20000 in
theorem in_wsL_law0_r11 : GoodIn lw_tbl wsL_law0_r11 := goodIn_p wsL_law0_r11 [186, 198, 476, 480, 483, 491] rfl (by decide +kernel)
set_option maxRecDepth 20000 in
theorem in_wsL_law0_r12 : GoodIn lw_tbl wsL_law0_r12 := goodIn_p wsL_law0_r12 [494, 501, 506, 509, 512, 531] rfl (by decide +kernel)
set_option maxRecDepth 20000 in
theorem in_wsL_law0_r13 : GoodIn lw_tbl wsL_law0_r13 := goodIn_p wsL_law0_r13 [537, 542, 545, 551, 558] rfl (by decide +kernel)
set_option maxRecDepth 20000 in
theorem in_wsL_law0_r14 : GoodIn lw_tbl wsL_law0_r14 := goodIn_p wsL_law0_r14 [562, 222, 567, 575, 578] rfl (by decide +kernel)
