set_option maxRecDepth 20000 in
theorem wsL_law_r1_g : GoodIn lw_tbl wsL_law_r1 := goodIn_p _ [39, 42] (by decide +kernel) (by decide +kernel)
set_option maxRecDepth 20000 in
theorem wsL_law_r2_g : GoodIn lw_tbl wsL_law_r2 := goodIn_p _ [343, 78, 82] (by decide +kernel) (by decide +kernel)
set_option maxRecDepth 20000 in
theorem wsL_law_r3_g : GoodIn lw_tbl wsL_law_r3 := goodIn_p _ [87, 90, 93, 127] (by decide +kernel) (by decide +kernel)
set_option maxRecDepth 20000 in
theorem wsL_law_r4_g : GoodIn lw_tbl wsL_law_r4 := goodIn_p _ [380, 384, 388, 139, 143] (by decide +kernel) (by decide +kernel)
set_option maxRecDepth 20000 in
theorem wsL_law_r5_g : GoodIn lw_tbl wsL_law_r5 := goodIn_p _ [148, 393, 397, 159, 401, 163] (by decide +kernel) (by decide +kernel)
set_option maxRecDepth 20000 in
theorem wsL_law_r6_g : GoodIn lw_tbl wsL_law_r6 := goodIn_p _ [167, 405, 409, 412, 416, 171] (by decide +kernel) (by decide +kernel)
set_option maxRecDepth 20000 in
theorem wsL_law_r7_g : GoodIn lw_tbl wsL_law_r7 := goodIn_p _ [420, 424, 428, 176, 179] (by decide +kernel) (by decide +kernel)
set_option maxRecDepth 20000 in
theorem wsL_law_r8_g : GoodIn lw_tbl wsL_law_r8 := goodIn_p _ [185, 189, 193, 432, 436] (by decide +kernel) (by decide +kernel)
set_option maxRecDepth 20000 in
theorem wsL_law_r9_g : GoodIn lw_tbl wsL_law_r9 := goodIn_p _ [440, 443, 446, 197, 201] (by decide +kernel) (by decide +kernel)
set_option maxRecDepth 20000 in
theorem wsL_law_r10_g : GoodIn lw_tbl wsL_law_r10 := goodIn_p _ [205, 455, 459, 209, 213] (by decide +kernel) (by decide +kernel)
set_option maxRecDepth 20000 in
theorem wsL_law_r11_g : GoodIn lw_tbl wsL_law_r11 := goodIn_p _ [217, 220, 463, 467] (by decide +kernel) (by decide +kernel)
set_option maxRecDepth 20000 in
theorem wsL_law_r12_g : GoodIn lw_tbl wsL_law_r12 := goodIn_p _ [471, 475, 227, 231, 480] (by decide +kernel) (by decide +kernel)
set_option maxRecDepth 20000 in
theorem wsL_law_r13_g : GoodIn lw_tbl wsL_law_r13 := goodIn_p _ [239, 484, 243, 247, 488, 251] (by decide +kernel) (by decide +kernel)
set_option maxRecDepth 20000 in
theorem wsL_law_r14_g : GoodIn lw_tbl wsL_law_r14 := goodIn_p _ [255, 258, 262, 268, 272] (by decide +kernel) (by decide +kernel)
set_option maxRecDepth 20000 in
theorem wsL_law_r15_g : GoodIn lw_tbl wsL_law_r15 := goodIn_p _ [279, 492, 496, 285] (by decide +kernel) (by decide +kernel)
set_option maxRecDepth 20000 in
theorem wsL_law_r16_g : GoodIn lw_tbl wsL_law_r16 := goodIn_p _ [500, 289, 504, 293, 297, 508] (by decide +kernel) (by decide +kernel)
set_option maxRecDepth 20000 in
theorem wsL_law_r17_g : GoodIn lw_tbl wsL_law_r17 := goodIn_p _ [301, 513, 305, 517, 309, 521] (by decide +kernel) (by decide +kernel)
set_option maxRecDepth 20000 in
theorem wsL_law_r18_g : GoodIn lw_tbl wsL_law_r18 := goodIn_p _ [313, 317, 322, 326, 525] (by decide +kernel) (by decide +kernel)
set_option maxRecDepth 20000 in
theorem wsL_law_r19_g : GoodIn lw_tbl wsL_law_r19 := goodIn_p _ [530, 534, 334, 338, 538] (by decide +kernel) (by decide +kernel)
set_option maxRecDepth 20000 in
theorem wsX50_g : GoodIn lw_tbl wsX50 := goodIn_p _ [] (by decide +kernel) (by decide +kernel)
set_option maxRecDepth 20000 in
theorem wsX60_g : GoodIn lw_tbl wsX60 := goodIn_p _ [] (by decide +kernel) (by decide +kernel)
set_option maxRecDepth 20000 in
theorem wsX10_g : GoodIn lw_tbl wsX10 := goodIn_p _ [] (by decide +kernel) (by decide +kernel)
set_option maxRecDepth 20000 in
theorem wsX20_g : GoodIn lw_tbl wsX20 := goodIn_p _ [] (by decide +kernel) (by decide +kernel)
set_option maxRecDepth 20000 in
theorem wsX40_g : GoodIn lw_tbl wsX40 := goodIn_p _ [] (by decide +kernel) (by decide +kernel)
theorem wsL_law_in : ∀ w ∈ wsL_law, w ∈ lw_tbl := fun w h => (goodIn_app (goodIn_app (goodIn_app (goodIn_app (goodIn_app (goodIn_app (goodIn_app wsL_law_r1_g (goodIn_app wsL_law_r2_g (goodIn_app wsL_law_r3_g (goodIn_app wsL_law_r4_g (goodIn_app wsL_law_r5_g (goodIn_app wsL_law_r6_g (goodIn_app wsL_law_r7_g (goodIn_app wsL_law_r8_g (goodIn_app wsL_law_r9_g (goodIn_app wsL_law_r10_g (goodIn_app wsL_law_r11_g (goodIn_app wsL_law_r12_g (goodIn_app wsL_law_r13_g (goodIn_app wsL_law_r14_g (goodIn_app wsL_law_r15_g (goodIn_app wsL_law_r16_g (goodIn_app wsL_law_r17_g (goodIn_app wsL_law_r18_g wsL_law_r19_g)))))))))))))))))) wsX50_g) wsX60_g) wsX10_g) wsX20_g) wsX40_g) (goodIn_p _ [] rfl rfl) w h).1
theorem inX0 : ∀ w ∈ wsX00, w ∈ lw_tbl := by decide +kernel
theorem inlX1 : ∀ w ∈ wsX10, w ∈ wsL_law := fun _ h => List.mem_append_left _ (List.mem_append_left _ (List.mem_append_left _ (List.mem_append_right _ h)))
theorem inX1 : ∀ w ∈ wsX10, w ∈ lw_tbl := fun w h => wsL_law_in w (inlX1 w h)
theorem inlX2 : ∀ w ∈ wsX20, w ∈ wsL_law := fun _ h => List.mem_append_left _ (List.mem_append_left _ (List.mem_append_right _ h))
theorem inX2 : ∀ w ∈ wsX20, w ∈ lw_tbl := fun w h => wsL_law_in w (inlX2 w h)
theorem inX3 : ∀ w ∈ wsX30, w ∈ lw_tbl := by decide +kernel
theorem inlX4 : ∀ w ∈ wsX40, w ∈ wsL_law := fun _ h => List.mem_append_left _ (List.mem_append_right _ h)
theorem inX4 : ∀ w ∈ wsX40, w ∈ lw_tbl := fun w h => wsL_law_in w (inlX4 w h)
theorem inlX5 : ∀ w ∈ wsX50, w ∈ wsL_law := fun _ h => List.mem_append_left _ (List.mem_append_left _ (List.mem_append_left _ (List.mem_append_left _ (List.mem_append_left _ (List.mem_append_right _ h)))))
theorem inX5 : ∀ w ∈ wsX50, w ∈ lw_tbl := fun w h => wsL_law_in w (inlX5 w h)
theorem inlX6 : ∀ w ∈ wsX60, w ∈ wsL_law := fun _ h => List.mem_append_left _ (List.mem_append_left _ (List.mem_append_left _ (List.mem_append_left _ (List.mem_append_right _ h))))
theorem inX6 : ∀ w ∈ wsX60, w ∈ lw_tbl := fun w h => wsL_law_in w (inlX6 w h)
theorem inJ10 : ∀ w ∈ wsJ100, w ∈ lw_tbl := by decide +kernel
