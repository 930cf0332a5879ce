/-! the law's words are the tables' (by wip/p26/lawall.py) -/
set_option maxRecDepth 20000 in
theorem glt_r1 : GoodIn lw_tbl wsL_law_r1 := goodIn_p _ [24, 27] rfl (by decide +kernel)
set_option maxRecDepth 20000 in
theorem glt_r2 : GoodIn lw_tbl wsL_law_r2 := goodIn_p _ [32, 38] rfl (by decide +kernel)
set_option maxRecDepth 20000 in
theorem glt_r3 : GoodIn lw_tbl wsL_law_r3 := goodIn_p _ [58, 101, 135, 148] rfl (by decide +kernel)
set_option maxRecDepth 20000 in
theorem glt_r4 : GoodIn lw_tbl wsL_law_r4 := goodIn_p _ [216, 233, 274, 371, 374] rfl (by decide +kernel)
set_option maxRecDepth 20000 in
theorem glt_r5 : GoodIn lw_tbl wsL_law_r5 := goodIn_p _ [302, 306, 298, 311, 314, 378] rfl (by decide +kernel)
set_option maxRecDepth 20000 in
theorem glt_r6 : GoodIn lw_tbl wsL_law_r6 := goodIn_p _ [386, 398, 403] rfl (by decide +kernel)
set_option maxRecDepth 20000 in
theorem glt_r7 : GoodIn lw_tbl wsL_law_r7 := goodIn_p _ [410, 414, 418, 422] rfl (by decide +kernel)
set_option maxRecDepth 20000 in
theorem glt_r8 : GoodIn lw_tbl wsL_law_r8 := goodIn_p _ [426, 430, 434] rfl (by decide +kernel)
set_option maxRecDepth 20000 in
theorem glt_r9 : GoodIn lw_tbl wsL_law_r9 := goodIn_p _ [438, 442, 322, 326] rfl (by decide +kernel)
set_option maxRecDepth 20000 in
theorem glt_r10 : GoodIn lw_tbl wsL_law_r10 := goodIn_p _ [446, 451, 294, 455, 463] rfl (by decide +kernel)
set_option maxRecDepth 20000 in
theorem glt_r11 : GoodIn lw_tbl wsL_law_r11 := goodIn_p _ [282, 285, 467, 471] rfl (by decide +kernel)
set_option maxRecDepth 20000 in
theorem glt_r12 : GoodIn lw_tbl wsL_law_r12 := goodIn_p _ [475, 478, 482, 487, 491, 495] rfl (by decide +kernel)
set_option maxRecDepth 20000 in
theorem glt_r13 : GoodIn lw_tbl wsL_law_r13 := goodIn_p _ [499, 503, 364, 335, 339] rfl (by decide +kernel)
set_option maxRecDepth 20000 in
theorem glt_r14 : GoodIn lw_tbl wsL_law_r14 := goodIn_p _ [508, 512, 517, 521, 526] rfl (by decide +kernel)
set_option maxRecDepth 20000 in
theorem glt_r15 : GoodIn lw_tbl wsL_law_r15 := goodIn_p _ [531, 535, 540, 544, 548] rfl (by decide +kernel)
set_option maxRecDepth 20000 in
theorem glt_r16 : GoodIn lw_tbl wsL_law_r16 := goodIn_p _ [345, 552] rfl (by decide +kernel)
set_option maxRecDepth 20000 in
theorem glt_r17 : GoodIn lw_tbl wsL_law_r17 := goodIn_p _ [556, 561, 566, 570, 574] rfl (by decide +kernel)
set_option maxRecDepth 20000 in
theorem glt_r18 : GoodIn lw_tbl wsL_law_r18 := goodIn_p _ [578, 582, 585, 588, 591, 595, 599] rfl (by decide +kernel)
set_option maxRecDepth 20000 in
theorem glt_r19 : GoodIn lw_tbl wsL_law_r19 := goodIn_p _ [603, 607, 611, 615, 289, 619] rfl (by decide +kernel)
set_option maxRecDepth 20000 in
theorem glt_r20 : GoodIn lw_tbl wsL_law_r20 := goodIn_p _ [360, 349, 353] rfl (by decide +kernel)
set_option maxRecDepth 20000 in
theorem glt_r21 : GoodIn lw_tbl wsL_law_r21 := goodIn_p _ [278, 318, 330, 356, 622] rfl (by decide +kernel)
set_option maxRecDepth 20000 in
theorem glt_r22 : GoodIn lw_tbl wsL_law_r22 := goodIn_p _ [629, 633] rfl (by decide +kernel)
set_option maxRecDepth 20000 in
theorem glt_x0 : GoodIn lw_tbl wsX00 := goodIn_of _ (by decide +kernel)
set_option maxRecDepth 20000 in
theorem glt_x1 : GoodIn lw_tbl wsX10 := goodIn_of _ (by decide +kernel)
set_option maxRecDepth 20000 in
theorem glt_x2 : GoodIn lw_tbl wsX20 := goodIn_of _ (by decide +kernel)
set_option maxRecDepth 20000 in
theorem glt_x3 : GoodIn lw_tbl wsX30 := goodIn_of _ (by decide +kernel)
set_option maxRecDepth 20000 in
theorem glt_x4 : GoodIn lw_tbl wsX40 := goodIn_of _ (by decide +kernel)
set_option maxRecDepth 20000 in
theorem glt_x5 : GoodIn lw_tbl wsX50 := goodIn_of _ (by decide +kernel)
set_option maxRecDepth 20000 in
theorem glt_x6 : GoodIn lw_tbl wsX60 := goodIn_of _ (by decide +kernel)
set_option maxRecDepth 20000 in
theorem glt_x7 : GoodIn lw_tbl wsX70 := goodIn_of _ (by decide +kernel)
set_option maxRecDepth 20000 in
theorem glt_x8 : GoodIn lw_tbl wsX80 := goodIn_of _ (by decide +kernel)
theorem glt_law : GoodIn lw_tbl wsL_law := (goodIn_app (goodIn_app (goodIn_app (goodIn_app (goodIn_app (goodIn_app (goodIn_app (goodIn_app (goodIn_app (goodIn_app (goodIn_app glt_r1 (goodIn_app glt_r2 (goodIn_app glt_r3 (goodIn_app glt_r4 (goodIn_app glt_r5 (goodIn_app glt_r6 (goodIn_app glt_r7 (goodIn_app glt_r8 (goodIn_app glt_r9 (goodIn_app glt_r10 (goodIn_app glt_r11 (goodIn_app glt_r12 (goodIn_app glt_r13 (goodIn_app glt_r14 (goodIn_app glt_r15 (goodIn_app glt_r16 (goodIn_app glt_r17 (goodIn_app glt_r18 (goodIn_app glt_r19 (goodIn_app glt_r20 (goodIn_app glt_r21 glt_r22))))))))))))))))))))) glt_x8) glt_x5) glt_x2) glt_x0) glt_x4) glt_x7) glt_x1) glt_x3) glt_x6) (fun _ h9 => absurd h9 List.not_mem_nil))
