theorem law_good : wsL_law.all goodWord = true := by decide +kernel
theorem law_self : GoodIn wsL_law wsL_law := goodIn_sub (fun _ h => h) law_good
theorem goodIn_1 {big : List Cond} {c : Cond} (i : Nat) (h : big[i]? = some c) (g : goodWord c = true) : GoodIn big [c] := fun w hw => by
  rw [List.mem_singleton.mp hw]
  exact ⟨List.mem_of_getElem? h, good_of_word g⟩
theorem goodIn_up {big ws : List Cond} (c : Cond) (h : GoodIn big ws) : GoodIn (c :: big) ws := fun w hw => ⟨List.mem_cons_of_mem _ (h w hw).1, (h w hw).2⟩
set_option maxRecDepth 20000 in
theorem guX4_init_1 : GoodIn wsL_law (.code yX4_init cX4_init 1 none :: wsX4_init_r1) := goodIn_r _ [5, 6, 7, 8, 9, 10, 11, 12, 13, 14, 15, 16, 17, 18, 19, 20, 21, 22, 23, 24, 25, 26, 27, 28, 29] (by decide +kernel) (by decide +kernel)
set_option maxRecDepth 20000 in
theorem guX4_init_2 : GoodIn wsL_law wsX4_init_r2 := goodIn_r _ [30, 31, 32, 33, 34, 35, 36, 37, 38, 39, 40, 41, 42, 43, 44, 45, 46, 47, 48, 49, 50, 51, 52, 53] (by decide +kernel) (by decide +kernel)
set_option maxRecDepth 20000 in
theorem guX4_init_3 : GoodIn wsL_law wsX4_init_r3 := goodIn_r _ [54, 55, 56, 57] (by decide +kernel) (by decide +kernel)
theorem guX30 : GoodIn wsL_law wsX30 := goodIn_sub inlX3 (by decide +kernel)
theorem guX40 : GoodIn wsL_law wsX40 := goodIn_sub inlX4 (by decide +kernel)
theorem guX10 : GoodIn wsL_law wsX10 := goodIn_sub inlX1 (by decide +kernel)
theorem guX20 : GoodIn wsL_law wsX20 := goodIn_sub inlX2 (by decide +kernel)
theorem guX00 : GoodIn wsL_law wsX00 := goodIn_sub inlX0 (by decide +kernel)
theorem gwX4_init : GoodIn wsL_law wsX4_init := by unfold wsX4_init; exact goodIn_ca (goodIn_ca (goodIn_ca (goodIn_ca (goodIn_ca (goodIn_ca guX4_init_1 (goodIn_app guX4_init_2 (guX4_init_3))) guX30) guX40) guX10) guX20) guX00
set_option maxRecDepth 20000 in
theorem guX4_best_1 : GoodIn wsL_law (.code yX4_best cX4_best 2 (some .int) :: wsX4_best_r1) := goodIn_r _ [326, 12, 180, 181, 2, 182, 106, 107, 108, 109, 22, 110, 111, 112, 21, 113, 51, 52, 114, 115, 116, 117, 118, 119, 120] (by decide +kernel) (by decide +kernel)
set_option maxRecDepth 20000 in
theorem guX4_best_2 : GoodIn wsL_law wsX4_best_r2 := goodIn_r _ [327, 328, 329, 11, 330, 331, 320, 321, 322, 32, 36, 40, 257, 258, 259, 260, 35, 261, 262, 139, 263, 75, 332, 333] (by decide +kernel) (by decide +kernel)
set_option maxRecDepth 20000 in
theorem guX4_best_3 : GoodIn wsL_law wsX4_best_r3 := goodIn_r _ [334, 335, 160, 161, 162, 163, 129, 130, 131, 132, 133, 134, 135, 136, 137, 138, 140, 141, 142, 143, 144, 145, 146, 147] (by decide +kernel) (by decide +kernel)
theorem gwX4_best : GoodIn wsL_law wsX4_best := by unfold wsX4_best; exact goodIn_ca (goodIn_ca (goodIn_ca (goodIn_ca guX4_best_1 (goodIn_app guX4_best_2 (guX4_best_3))) guX40) guX30) guX20
theorem gvX4_best : GoodIn wsL_law (wsV RL 39 RX4 yX4_best wsX4_best) := goodIn_app (goodIn_of _ (by decide +kernel)) gwX4_best
set_option maxRecDepth 20000 in
theorem guX4_clearText_1 : GoodIn wsL_law (.code yX4_clearText cX4_clearText 1 (some .int) :: [.fieldLink RX4 39 "StormFelling" "days" "LStormFelling$Days;", .methodLink RX4 90 yX0_empty, .instanceMethod yX0_empty, .selects RX0 yX0_empty yX0_empty, .initialized RX0, .code yX0_empty cX0_empty 2 (some .int), .fieldLink RX0 15 "StormFelling$Days" "length" "I"]) := goodIn_r _ [350, 26, 351, 352, 353, 25, 354, 355] (by decide +kernel) (by decide +kernel)
theorem gwX4_clearText : GoodIn wsL_law wsX4_clearText := by unfold wsX4_clearText; exact goodIn_ca (goodIn_ca (guX4_clearText_1) guX40) guX00
theorem gvX4_clearText : GoodIn wsL_law (wsV RL 78 RX4 yX4_clearText wsX4_clearText) := goodIn_app (goodIn_of _ (by decide +kernel)) gwX4_clearText
set_option maxRecDepth 20000 in
theorem guX4_count_1 : GoodIn wsL_law (.code yX4_count cX4_count 2 (some .int) :: wsX4_count_r1) := goodIn_r _ [101, 12, 18, 26, 102, 103, 104, 11, 105, 32, 106, 107, 108, 2, 109, 22, 110, 111, 112, 21, 113, 51, 52, 114, 115] (by decide +kernel) (by decide +kernel)
set_option maxRecDepth 20000 in
theorem guX4_count_2 : GoodIn wsL_law wsX4_count_r2 := goodIn_r _ [116, 117, 118, 119, 120, 121, 122, 123, 124, 125, 126, 127, 128, 129, 130, 131, 132, 40, 133, 134, 135, 136, 137, 138] (by decide +kernel) (by decide +kernel)
set_option maxRecDepth 20000 in
theorem guX4_count_3 : GoodIn wsL_law wsX4_count_r3 := goodIn_r _ [139, 140, 141, 142, 143, 144, 145, 146, 147, 148, 149, 150, 151, 152, 153, 154, 155, 156, 157, 158, 159, 160, 161, 162] (by decide +kernel) (by decide +kernel)
set_option maxRecDepth 20000 in
theorem guX4_count_4 : GoodIn wsL_law wsX4_count_r4 := goodIn_r _ [163, 164, 165, 166, 167, 39, 168, 169, 170, 171, 37, 172, 173, 174, 175, 34] (by decide +kernel) (by decide +kernel)
theorem gwX4_count : GoodIn wsL_law wsX4_count := by unfold wsX4_count; exact goodIn_ca (goodIn_ca (goodIn_ca (goodIn_ca (goodIn_ca (goodIn_ca guX4_count_1 (goodIn_app guX4_count_2 (goodIn_app guX4_count_3 (guX4_count_4)))) guX40) guX30) guX20) guX10) guX00
theorem gvX4_count : GoodIn wsL_law (wsV RL 14 RX4 yX4_count wsX4_count) := goodIn_app (goodIn_of _ (by decide +kernel)) gwX4_count
set_option maxRecDepth 20000 in
theorem guX4_crew_1 : GoodIn wsL_law (.code yX4_crew cX4_crew 3 (some .int) :: [.fieldLink RX4 10 "StormFelling" "wood" "LStormFelling$Wood;", .methodLink RX4 117 yX4_isIn, .static yX4_isIn, .initialized RX4, .code yX4_isIn cX4_isIn 3 (some .boolean)]) := goodIn_r _ [179, 12, 180, 181, 2, 182] (by decide +kernel) (by decide +kernel)
theorem gwX4_crew : GoodIn wsL_law wsX4_crew := by unfold wsX4_crew; exact goodIn_ca (goodIn_ca (guX4_crew_1) guX40) guX30
theorem gvX4_crew : GoodIn wsL_law (wsV RL 20 RX4 yX4_crew wsX4_crew) := goodIn_app (goodIn_of _ (by decide +kernel)) gwX4_crew
set_option maxRecDepth 20000 in
theorem guX4_endDays_1 : GoodIn wsL_law (.code yX4_endDays cX4_endDays 2 (some .int) :: wsX4_endDays_r1) := goodIn_r _ [235, 13, 12, 85, 68, 69, 11, 70, 32, 71, 72, 73, 74, 34, 75, 35, 36, 37, 38, 39, 40, 76, 77, 78, 79] (by decide +kernel) (by decide +kernel)
set_option maxRecDepth 20000 in
theorem guX4_endDays_2 : GoodIn wsL_law wsX4_endDays_r2 := goodIn_r _ [236, 237, 238, 239, 240, 138, 139, 140, 181, 2, 182, 86, 87, 88, 89, 18, 90, 91, 92, 17, 93, 66, 46, 94] (by decide +kernel) (by decide +kernel)
set_option maxRecDepth 20000 in
theorem guX4_endDays_3 : GoodIn wsL_law wsX4_endDays_r3 := goodIn_r _ [95, 96, 97, 67] (by decide +kernel) (by decide +kernel)
theorem gwX4_endDays : GoodIn wsL_law wsX4_endDays := by unfold wsX4_endDays; exact goodIn_ca (goodIn_ca (goodIn_ca (goodIn_ca guX4_endDays_1 (goodIn_app guX4_endDays_2 (guX4_endDays_3))) guX40) guX30) guX10
theorem gvX4_endDays : GoodIn wsL_law (wsV RL 54 RX4 yX4_endDays wsX4_endDays) := goodIn_app (goodIn_of _ (by decide +kernel)) gwX4_endDays
set_option maxRecDepth 20000 in
theorem guX4_fell_1 : GoodIn wsL_law (.code yX4_fell cX4_fell 2 (some .int) :: wsX4_fell_r1) := goodIn_r _ [267, 13, 12, 85, 68, 69, 11, 70, 32, 71, 72, 73, 74, 34, 75, 35, 36, 37, 38, 39, 40, 76, 77, 78, 79] (by decide +kernel) (by decide +kernel)
set_option maxRecDepth 20000 in
theorem guX4_fell_2 : GoodIn wsL_law wsX4_fell_r2 := goodIn_r _ [268, 269, 270, 271, 181, 2, 182, 86, 87, 88, 89, 18, 90, 91, 92, 17, 93, 66, 46, 94, 95, 96, 97, 67] (by decide +kernel) (by decide +kernel)
theorem gwX4_fell : GoodIn wsL_law wsX4_fell := by unfold wsX4_fell; exact goodIn_ca (goodIn_ca (goodIn_ca (goodIn_ca guX4_fell_1 (guX4_fell_2)) guX40) guX30) guX10
theorem gvX4_fell : GoodIn wsL_law (wsV RL 63 RX4 yX4_fell wsX4_fell) := goodIn_app (goodIn_of _ (by decide +kernel)) gwX4_fell
set_option maxRecDepth 20000 in
theorem guX4_go_1 : GoodIn wsL_law (.code yX4_go cX4_go 3 (some .int) :: wsX4_go_r1) := goodIn_r _ [252, 13, 12, 85, 68, 69, 11, 70, 32, 71, 72, 73, 74, 34, 75, 35, 36, 37, 38, 39, 40, 76, 77, 78, 79] (by decide +kernel) (by decide +kernel)
set_option maxRecDepth 20000 in
theorem guX4_go_2 : GoodIn wsL_law wsX4_go_r2 := goodIn_r _ [253, 254, 255, 256, 181, 2, 182, 257, 258, 259, 260, 261, 262, 139, 263, 86, 87, 88, 89, 18, 90, 91, 92, 17] (by decide +kernel) (by decide +kernel)
set_option maxRecDepth 20000 in
theorem guX4_go_3 : GoodIn wsL_law wsX4_go_r3 := goodIn_r _ [93, 66, 46, 94, 95, 96, 97, 67] (by decide +kernel) (by decide +kernel)
theorem gwX4_go : GoodIn wsL_law wsX4_go := by unfold wsX4_go; exact goodIn_ca (goodIn_ca (goodIn_ca (goodIn_ca guX4_go_1 (goodIn_app guX4_go_2 (guX4_go_3))) guX40) guX30) guX10
theorem gvX4_go : GoodIn wsL_law (wsV RL 60 RX4 yX4_go wsX4_go) := goodIn_app (goodIn_of _ (by decide +kernel)) gwX4_go
set_option maxRecDepth 20000 in
theorem guX4_grow_1 : GoodIn wsL_law (.code yX4_grow cX4_grow 3 (some .int) :: wsX4_grow_r1) := goodIn_r _ [218, 13, 12, 85, 68, 69, 11, 70, 32, 71, 72, 73, 74, 34, 75, 35, 36, 37, 38, 39, 40, 76, 77, 78, 79] (by decide +kernel) (by decide +kernel)
set_option maxRecDepth 20000 in
theorem guX4_grow_2 : GoodIn wsL_law wsX4_grow_r2 := goodIn_r _ [219, 220, 221, 222, 181, 2, 182, 86, 87, 88, 89, 18, 90, 91, 92, 17, 93, 66, 46, 94, 95, 96, 97, 67] (by decide +kernel) (by decide +kernel)
theorem gwX4_grow : GoodIn wsL_law wsX4_grow := by unfold wsX4_grow; exact goodIn_ca (goodIn_ca (goodIn_ca (goodIn_ca guX4_grow_1 (guX4_grow_2)) guX40) guX30) guX10
theorem gvX4_grow : GoodIn wsL_law (wsV RL 48 RX4 yX4_grow wsX4_grow) := goodIn_app (goodIn_of _ (by decide +kernel)) gwX4_grow
set_option maxRecDepth 20000 in
theorem guX4_hint_1 : GoodIn wsL_law (.code yX4_hint cX4_hint 3 (some .int) :: wsX4_hint_r1) := goodIn_r _ [275, 13, 12, 85, 68, 69, 11, 70, 32, 71, 72, 73, 74, 34, 75, 35, 36, 37, 38, 39, 40, 76, 77, 78, 79] (by decide +kernel) (by decide +kernel)
set_option maxRecDepth 20000 in
theorem guX4_hint_2 : GoodIn wsL_law wsX4_hint_r2 := goodIn_r _ [106, 107, 108, 2, 109, 22, 110, 111, 112, 21, 113, 51, 52, 114, 115, 116, 117, 118, 119, 120, 276, 277, 278, 279] (by decide +kernel) (by decide +kernel)
set_option maxRecDepth 20000 in
theorem guX4_hint_3 : GoodIn wsL_law wsX4_hint_r3 := goodIn_r _ [181, 182, 280, 145, 146, 147, 86, 87, 88, 89, 18, 90, 91, 92, 17, 93, 66, 46, 94, 95, 96, 97, 67] (by decide +kernel) (by decide +kernel)
theorem gwX4_hint : GoodIn wsL_law wsX4_hint := by unfold wsX4_hint; exact goodIn_ca (goodIn_ca (goodIn_ca (goodIn_ca (goodIn_ca guX4_hint_1 (goodIn_app guX4_hint_2 (guX4_hint_3))) guX40) guX30) guX20) guX10
theorem gvX4_hint : GoodIn wsL_law (wsV RL 66 RX4 yX4_hint wsX4_hint) := goodIn_app (goodIn_of _ (by decide +kernel)) gwX4_hint
set_option maxRecDepth 20000 in
theorem guX4_ifTold_1 : GoodIn wsL_law (.code yX4_ifTold cX4_ifTold 3 (some .int) :: wsX4_ifTold_r1) := goodIn_r _ [339, 180, 181, 2, 182, 106, 107, 108, 109, 22, 12, 110, 111, 112, 21, 113, 51, 52, 114, 115, 116, 117, 118, 119, 120] (by decide +kernel) (by decide +kernel)
set_option maxRecDepth 20000 in
theorem guX4_ifTold_2 : GoodIn wsL_law wsX4_ifTold_r2 := goodIn_r _ [340, 145, 146, 147] (by decide +kernel) (by decide +kernel)
theorem gwX4_ifTold : GoodIn wsL_law wsX4_ifTold := by unfold wsX4_ifTold; exact goodIn_ca (goodIn_ca (goodIn_ca (goodIn_ca guX4_ifTold_1 (guX4_ifTold_2)) guX40) guX30) guX20
theorem gvX4_ifTold : GoodIn wsL_law (wsV RL 36 RX4 yX4_ifTold wsX4_ifTold) := goodIn_app (goodIn_of _ (by decide +kernel)) gwX4_ifTold
set_option maxRecDepth 20000 in
theorem guX4_keep_1 : GoodIn wsL_law (.code yX4_keep cX4_keep 1 (some .int) :: wsX4_keep_r1) := goodIn_r _ [415, 14, 12, 84, 85, 68, 69, 11, 70, 32, 71, 72, 73, 74, 34, 75, 35, 36, 37, 38, 39, 40, 76, 77, 78] (by decide +kernel) (by decide +kernel)
set_option maxRecDepth 20000 in
theorem guX4_keep_2 : GoodIn wsL_law wsX4_keep_r2 := goodIn_r _ [79] (by decide +kernel) (by decide +kernel)
theorem gwX4_keep : GoodIn wsL_law wsX4_keep := by unfold wsX4_keep; exact goodIn_ca (goodIn_ca (goodIn_ca guX4_keep_1 (guX4_keep_2)) guX40) guX30
theorem gvX4_keep : GoodIn wsL_law (wsV RL 110 RX4 yX4_keep wsX4_keep) := goodIn_app (goodIn_of _ (by decide +kernel)) gwX4_keep
set_option maxRecDepth 20000 in
theorem guX4_openRow_1 : GoodIn wsL_law (.code yX4_openRow cX4_openRow 1 (some .int) :: wsX4_openRow_r1) := goodIn_r _ [443, 106, 107, 108, 2, 109, 22, 12, 110, 111, 112, 21, 113, 51, 52, 114, 115, 116, 117, 118, 119, 120, 444, 445, 446] (by decide +kernel) (by decide +kernel)
set_option maxRecDepth 20000 in
theorem guX4_openRow_2 : GoodIn wsL_law wsX4_openRow_r2 := goodIn_r _ [447, 448, 449, 450, 451, 144, 145, 146, 147] (by decide +kernel) (by decide +kernel)
theorem gwX4_openRow : GoodIn wsL_law wsX4_openRow := by unfold wsX4_openRow; exact goodIn_ca (goodIn_ca (goodIn_ca (goodIn_ca guX4_openRow_1 (guX4_openRow_2)) guX40) guX30) guX20
theorem gvX4_openRow : GoodIn wsL_law (wsV RL 30 RX4 yX4_openRow wsX4_openRow) := goodIn_app (goodIn_of _ (by decide +kernel)) gwX4_openRow
set_option maxRecDepth 20000 in
theorem guX4_perform_1 : GoodIn wsL_law (.code yX4_perform cX4_perform 4 (some .int) :: wsX4_perform_r1) := goodIn_r _ [359, 26, 13, 12, 346, 345, 360, 361, 362, 25, 363, 364, 355, 365, 366, 367, 368, 369, 370, 371, 372, 373, 374, 375, 376] (by decide +kernel) (by decide +kernel)
set_option maxRecDepth 20000 in
theorem guX4_perform_2 : GoodIn wsL_law wsX4_perform_r2 := goodIn_r _ [377, 378, 379, 380, 381, 57, 382, 383, 384, 385, 386, 387, 388, 389, 390, 391, 392, 393, 394, 181, 2, 182, 395, 396] (by decide +kernel) (by decide +kernel)
set_option maxRecDepth 20000 in
theorem guX4_perform_3 : GoodIn wsL_law wsX4_perform_r3 := goodIn_r _ [397, 398, 399, 85, 68, 69, 11, 70, 32, 71, 72, 73, 74, 34, 75, 35, 36, 37, 38, 39, 40, 76, 77, 78] (by decide +kernel) (by decide +kernel)
set_option maxRecDepth 20000 in
theorem guX4_perform_4 : GoodIn wsL_law wsX4_perform_r4 := goodIn_r _ [79, 400, 401, 402, 403, 404, 405, 406, 407, 408, 219, 220, 221, 222, 227, 228, 229, 230, 231, 142, 139, 143, 106, 107] (by decide +kernel) (by decide +kernel)
set_option maxRecDepth 20000 in
theorem guX4_perform_5 : GoodIn wsL_law wsX4_perform_r5 := goodIn_r _ [108, 109, 22, 110, 111, 112, 21, 113, 51, 52, 114, 115, 116, 117, 118, 119, 120, 276, 277, 278, 279, 280, 145, 146] (by decide +kernel) (by decide +kernel)
set_option maxRecDepth 20000 in
theorem guX4_perform_6 : GoodIn wsL_law wsX4_perform_r6 := goodIn_r _ [147, 253, 254, 255, 256, 257, 258, 259, 260, 261, 262, 263, 268, 269, 270, 271, 236, 237, 238, 239, 240, 138, 140, 409] (by decide +kernel) (by decide +kernel)
set_option maxRecDepth 20000 in
theorem guX4_perform_7 : GoodIn wsL_law wsX4_perform_r7 := goodIn_r _ [410, 411, 86, 87, 88, 89, 18, 90, 91, 92, 17, 93, 66, 46, 94, 95, 96, 97, 67] (by decide +kernel) (by decide +kernel)
theorem gwX4_perform : GoodIn wsL_law wsX4_perform := by unfold wsX4_perform; exact goodIn_ca (goodIn_ca (goodIn_ca (goodIn_ca (goodIn_ca (goodIn_ca guX4_perform_1 (goodIn_app guX4_perform_2 (goodIn_app guX4_perform_3 (goodIn_app guX4_perform_4 (goodIn_app guX4_perform_5 (goodIn_app guX4_perform_6 (guX4_perform_7))))))) guX40) guX00) guX30) guX20) guX10
theorem gvX4_perform : GoodIn wsL_law (wsV RL 81 RX4 yX4_perform wsX4_perform) := goodIn_app (goodIn_of _ (by decide +kernel)) gwX4_perform
set_option maxRecDepth 20000 in
theorem guX4_plot_1 : GoodIn wsL_law (.code yX4_plot cX4_plot 3 (some .int) :: wsX4_plot_r1) := goodIn_r _ [207, 12, 180, 181, 2, 182, 106, 107, 108, 109, 22, 110, 111, 112, 21, 113, 51, 52, 114, 115, 116, 117, 118, 119, 120] (by decide +kernel) (by decide +kernel)
set_option maxRecDepth 20000 in
theorem guX4_plot_2 : GoodIn wsL_law wsX4_plot_r2 := goodIn_r _ [208, 130, 131, 11, 132, 40, 133, 134, 135, 136, 137, 138, 139, 140, 141, 142, 143, 144, 145, 146, 147, 209, 126, 127] (by decide +kernel) (by decide +kernel)
set_option maxRecDepth 20000 in
theorem guX4_plot_3 : GoodIn wsL_law wsX4_plot_r3 := goodIn_r _ [128, 129, 210, 153, 154, 155, 211, 161, 162, 163, 32] (by decide +kernel) (by decide +kernel)
theorem gwX4_plot : GoodIn wsL_law wsX4_plot := by unfold wsX4_plot; exact goodIn_ca (goodIn_ca (goodIn_ca (goodIn_ca guX4_plot_1 (goodIn_app guX4_plot_2 (guX4_plot_3))) guX40) guX30) guX20
theorem gvX4_plot : GoodIn wsL_law (wsV RL 27 RX4 yX4_plot wsX4_plot) := goodIn_app (goodIn_of _ (by decide +kernel)) gwX4_plot
set_option maxRecDepth 20000 in
theorem guX4_rain_1 : GoodIn wsL_law (.code yX4_rain cX4_rain 2 (some .int) :: wsX4_rain_r1) := goodIn_r _ [226, 13, 12, 85, 68, 69, 11, 70, 32, 71, 72, 73, 74, 34, 75, 35, 36, 37, 38, 39, 40, 76, 77, 78, 79] (by decide +kernel) (by decide +kernel)
set_option maxRecDepth 20000 in
theorem guX4_rain_2 : GoodIn wsL_law wsX4_rain_r2 := goodIn_r _ [227, 228, 229, 230, 231, 142, 139, 143, 181, 2, 182, 86, 87, 88, 89, 18, 90, 91, 92, 17, 93, 66, 46, 94] (by decide +kernel) (by decide +kernel)
set_option maxRecDepth 20000 in
theorem guX4_rain_3 : GoodIn wsL_law wsX4_rain_r3 := goodIn_r _ [95, 96, 97, 67] (by decide +kernel) (by decide +kernel)
theorem gwX4_rain : GoodIn wsL_law wsX4_rain := by unfold wsX4_rain; exact goodIn_ca (goodIn_ca (goodIn_ca (goodIn_ca guX4_rain_1 (goodIn_app guX4_rain_2 (guX4_rain_3))) guX40) guX30) guX10
theorem gvX4_rain : GoodIn wsL_law (wsV RL 51 RX4 yX4_rain wsX4_rain) := goodIn_app (goodIn_of _ (by decide +kernel)) gwX4_rain
set_option maxRecDepth 20000 in
theorem guX4_reason_1 : GoodIn wsL_law (.code yX4_reason cX4_reason 3 (some .int) :: [.fieldLink RX4 10 "StormFelling" "wood" "LStormFelling$Wood;", .methodLink RX4 117 yX4_isIn, .static yX4_isIn, .initialized RX4, .code yX4_isIn cX4_isIn 3 (some .boolean), .methodLink RX4 183 yX3_whyNot, .instanceMethod yX3_whyNot, .selects RX3 yX3_whyNot yX3_whyNot, .initialized RX3, .code yX3_whyNot cX3_whyNot 4 (some .int), .fieldLink RX3 9 "StormFelling$Wood" "worths" "[I", .fieldLink RX3 22 "StormFelling$Wood" "steps" "[I", .fieldLink RX3 34 "StormFelling$Wood" "settings" "[I", .methodLink RX3 81 yX3_stepsTo, .instanceMethod yX3_stepsTo, .selects RX3 yX3_stepsTo yX3_stepsTo, .code yX3_stepsTo cX3_stepsTo 6 (some .int), .fieldLink RX3 19 "StormFelling$Wood" "places" "[I", .methodLink RX3 112 Lib.Math.abs.name, .static Lib.Math.abs.name, .initialized "java/lang/Math", .code Lib.Math.abs.name Lib.Math.abs.code 1 (some .int), .fieldLink RX3 46 "StormFelling$Wood" "mud" "I"]) := goodIn_r _ [318, 12, 180, 181, 2, 182, 319, 320, 321, 11, 322, 32, 36, 40, 257, 258, 259, 260, 35, 261, 262, 139, 263, 75] (by decide +kernel) (by decide +kernel)
theorem gwX4_reason : GoodIn wsL_law wsX4_reason := by unfold wsX4_reason; exact goodIn_ca (goodIn_ca (guX4_reason_1) guX40) guX30
theorem gvX4_reason : GoodIn wsL_law (wsV RL 45 RX4 yX4_reason wsX4_reason) := goodIn_app (goodIn_of _ (by decide +kernel)) gwX4_reason
set_option maxRecDepth 20000 in
theorem guX4_restore_1 : GoodIn wsL_law (.code yX4_restore cX4_restore 1 (some .int) :: wsX4_restore_r1) := goodIn_r _ [83, 84, 13, 12, 14, 85, 68, 69, 11, 70, 32, 71, 72, 73, 74, 34, 75, 35, 36, 37, 38, 39, 40, 76, 77] (by decide +kernel) (by decide +kernel)
set_option maxRecDepth 20000 in
theorem guX4_restore_2 : GoodIn wsL_law wsX4_restore_r2 := goodIn_r _ [78, 79, 86, 87, 88, 2, 89, 18, 90, 91, 92, 17, 93, 66, 46, 94, 95, 96, 97, 67] (by decide +kernel) (by decide +kernel)
theorem gwX4_restore : GoodIn wsL_law wsX4_restore := by unfold wsX4_restore; exact goodIn_ca (goodIn_ca (goodIn_ca (goodIn_ca guX4_restore_1 (guX4_restore_2)) guX40) guX30) guX10
theorem gvX4_restore : GoodIn wsL_law (wsV RL 104 RX4 yX4_restore wsX4_restore) := goodIn_app (goodIn_of _ (by decide +kernel)) gwX4_restore
set_option maxRecDepth 20000 in
theorem guX4_row_1 : GoodIn wsL_law (.code yX4_row cX4_row 3 (some .int) :: wsX4_row_r1) := goodIn_r _ [195, 12, 180, 181, 2, 182, 106, 107, 108, 109, 22, 110, 111, 112, 21, 113, 51, 52, 114, 115, 116, 117, 118, 119, 120] (by decide +kernel) (by decide +kernel)
set_option maxRecDepth 20000 in
theorem guX4_row_2 : GoodIn wsL_law wsX4_row_r2 := goodIn_r _ [196, 197, 198, 199, 144, 145, 146, 147, 200, 201, 202, 203] (by decide +kernel) (by decide +kernel)
theorem gwX4_row : GoodIn wsL_law wsX4_row := by unfold wsX4_row; exact goodIn_ca (goodIn_ca (goodIn_ca (goodIn_ca guX4_row_1 (guX4_row_2)) guX40) guX30) guX20
theorem gvX4_row : GoodIn wsL_law (wsV RL 24 RX4 yX4_row wsX4_row) := goodIn_app (goodIn_of _ (by decide +kernel)) gwX4_row
set_option maxRecDepth 20000 in
theorem guX4_set_1 : GoodIn wsL_law (.code yX4_set cX4_set 3 (some .int) :: wsX4_set_r1) := goodIn_r _ [244, 13, 12, 85, 68, 69, 11, 70, 32, 71, 72, 73, 74, 34, 75, 35, 36, 37, 38, 39, 40, 76, 77, 78, 79] (by decide +kernel) (by decide +kernel)
set_option maxRecDepth 20000 in
theorem guX4_set_2 : GoodIn wsL_law wsX4_set_r2 := goodIn_r _ [245, 246, 247, 248, 181, 2, 182, 86, 87, 88, 89, 18, 90, 91, 92, 17, 93, 66, 46, 94, 95, 96, 97, 67] (by decide +kernel) (by decide +kernel)
theorem gwX4_set : GoodIn wsL_law wsX4_set := by unfold wsX4_set; exact goodIn_ca (goodIn_ca (goodIn_ca (goodIn_ca guX4_set_1 (guX4_set_2)) guX40) guX30) guX10
theorem gvX4_set : GoodIn wsL_law (wsV RL 57 RX4 yX4_set wsX4_set) := goodIn_app (goodIn_of _ (by decide +kernel)) gwX4_set
set_option maxRecDepth 20000 in
theorem guX4_stopped_1 : GoodIn wsL_law (.code yX4_stopped cX4_stopped 2 (some .int) :: [.fieldLink RX4 114 "StormFelling" "stopError" "I", .fieldLink RX4 110 "StormFelling" "stopNumber" "I", .methodLink RX4 117 yX4_isIn, .static yX4_isIn, .initialized RX4, .code yX4_isIn cX4_isIn 3 (some .boolean)]) := goodIn_r _ [344, 345, 346, 180, 181, 2, 182] (by decide +kernel) (by decide +kernel)
theorem gwX4_stopped : GoodIn wsL_law wsX4_stopped := by unfold wsX4_stopped; exact goodIn_ca (guX4_stopped_1) guX40
theorem gvX4_stopped : GoodIn wsL_law (wsV RL 75 RX4 yX4_stopped wsX4_stopped) := goodIn_app (goodIn_of _ (by decide +kernel)) gwX4_stopped
set_option maxRecDepth 20000 in
theorem guX4_storm_1 : GoodIn wsL_law (.code yX4_storm cX4_storm 1 (some .int) :: wsX4_storm_r1) := goodIn_r _ [293, 13, 12, 85, 68, 69, 11, 70, 32, 71, 72, 73, 74, 34, 75, 35, 36, 37, 38, 39, 40, 76, 77, 78, 79] (by decide +kernel) (by decide +kernel)
set_option maxRecDepth 20000 in
theorem guX4_storm_2 : GoodIn wsL_law wsX4_storm_r2 := goodIn_r _ [106, 107, 108, 2, 109, 22, 110, 111, 112, 21, 113, 51, 52, 114, 115, 116, 117, 118, 119, 120, 294, 295, 296, 297] (by decide +kernel) (by decide +kernel)
set_option maxRecDepth 20000 in
theorem guX4_storm_3 : GoodIn wsL_law wsX4_storm_r3 := goodIn_r _ [298, 299, 300, 301, 125, 126, 127, 128, 129, 130, 131, 132, 133, 134, 135, 136, 137, 138, 139, 140, 141, 142, 143, 144] (by decide +kernel) (by decide +kernel)
set_option maxRecDepth 20000 in
theorem guX4_storm_4 : GoodIn wsL_law wsX4_storm_r4 := goodIn_r _ [145, 146, 147, 302, 303, 304, 305, 306, 307, 308, 309, 86, 87, 88, 89, 18, 90, 91, 92, 17, 93, 66, 46, 94] (by decide +kernel) (by decide +kernel)
set_option maxRecDepth 20000 in
theorem guX4_storm_5 : GoodIn wsL_law wsX4_storm_r5 := goodIn_r _ [95, 96, 97, 67] (by decide +kernel) (by decide +kernel)
theorem gwX4_storm : GoodIn wsL_law wsX4_storm := by unfold wsX4_storm; exact goodIn_ca (goodIn_ca (goodIn_ca (goodIn_ca (goodIn_ca guX4_storm_1 (goodIn_app guX4_storm_2 (goodIn_app guX4_storm_3 (goodIn_app guX4_storm_4 (guX4_storm_5))))) guX40) guX30) guX20) guX10
theorem gvX4_storm : GoodIn wsL_law (wsV RL 72 RX4 yX4_storm wsX4_storm) := goodIn_app (goodIn_of _ (by decide +kernel)) gwX4_storm
set_option maxRecDepth 20000 in
theorem guX4_takeBack_1 : GoodIn wsL_law (.code yX4_takeBack cX4_takeBack 2 (some .int) :: wsX4_takeBack_r1) := goodIn_r _ [284, 13, 12, 22, 85, 68, 69, 11, 70, 32, 71, 72, 73, 74, 34, 75, 35, 36, 37, 38, 39, 40, 76, 77, 78] (by decide +kernel) (by decide +kernel)
set_option maxRecDepth 20000 in
theorem guX4_takeBack_2 : GoodIn wsL_law wsX4_takeBack_r2 := goodIn_r _ [79, 285, 286, 287, 288, 181, 2, 182, 289, 111, 112, 21, 113, 51, 52, 114, 115, 116, 117, 118, 119, 120, 86, 87] (by decide +kernel) (by decide +kernel)
set_option maxRecDepth 20000 in
theorem guX4_takeBack_3 : GoodIn wsL_law wsX4_takeBack_r3 := goodIn_r _ [88, 89, 18, 90, 91, 92, 17, 93, 66, 46, 94, 95, 96, 97, 67] (by decide +kernel) (by decide +kernel)
theorem gwX4_takeBack : GoodIn wsL_law wsX4_takeBack := by unfold wsX4_takeBack; exact goodIn_ca (goodIn_ca (goodIn_ca (goodIn_ca (goodIn_ca guX4_takeBack_1 (goodIn_app guX4_takeBack_2 (guX4_takeBack_3))) guX40) guX30) guX20) guX10
theorem gvX4_takeBack : GoodIn wsL_law (wsV RL 69 RX4 yX4_takeBack wsX4_takeBack) := goodIn_app (goodIn_of _ (by decide +kernel)) gwX4_takeBack
set_option maxRecDepth 20000 in
theorem guX4_undo_1 : GoodIn wsL_law (.code yX4_undo cX4_undo 1 (some .int) :: wsX4_undo_r1) := goodIn_r _ [61, 18, 12, 62, 63, 64, 17, 65, 66, 46, 67, 68, 69, 11, 70, 32, 71, 72, 73, 74, 34, 75, 35, 36, 37] (by decide +kernel) (by decide +kernel)
set_option maxRecDepth 20000 in
theorem guX4_undo_2 : GoodIn wsL_law wsX4_undo_r2 := goodIn_r _ [38, 39, 40, 76, 77, 78, 79] (by decide +kernel) (by decide +kernel)
theorem gwX4_undo : GoodIn wsL_law wsX4_undo := by unfold wsX4_undo; exact goodIn_ca (goodIn_ca (goodIn_ca (goodIn_ca guX4_undo_1 (guX4_undo_2)) guX40) guX10) guX30
theorem gvX4_undo : GoodIn wsL_law (wsV RL 101 RX4 yX4_undo wsX4_undo) := goodIn_app (goodIn_of _ (by decide +kernel)) gwX4_undo
set_option maxRecDepth 20000 in
theorem guX4_way_1 : GoodIn wsL_law (.code yX4_way cX4_way 3 (some .int) :: [.fieldLink RX4 10 "StormFelling" "wood" "LStormFelling$Wood;", .methodLink RX4 117 yX4_isIn, .static yX4_isIn, .initialized RX4, .code yX4_isIn cX4_isIn 3 (some .boolean), .methodLink RX4 180 yX3_stepsTo, .instanceMethod yX3_stepsTo, .selects RX3 yX3_stepsTo yX3_stepsTo, .initialized RX3, .code yX3_stepsTo cX3_stepsTo 6 (some .int), .fieldLink RX3 19 "StormFelling$Wood" "places" "[I", .methodLink RX3 112 Lib.Math.abs.name, .static Lib.Math.abs.name, .initialized "java/lang/Math", .code Lib.Math.abs.name Lib.Math.abs.code 1 (some .int), .fieldLink RX3 46 "StormFelling$Wood" "mud" "I"]) := goodIn_r _ [313, 12, 180, 181, 2, 182, 314, 258, 259, 11, 260, 35, 261, 262, 139, 263, 75] (by decide +kernel) (by decide +kernel)
theorem gwX4_way : GoodIn wsL_law wsX4_way := by unfold wsX4_way; exact goodIn_ca (goodIn_ca (guX4_way_1) guX40) guX30
theorem gvX4_way : GoodIn wsL_law (wsV RL 42 RX4 yX4_way wsX4_way) := goodIn_app (goodIn_of _ (by decide +kernel)) gwX4_way
def wsU_cell : List Cond := .code yL_cell cL_cell 2 (some .int) :: wsL_law
set_option maxRecDepth 20000 in
theorem gsL_cell : GoodIn wsL_law (va_wsS RL 113 yL_cell wsU_cell) := goodIn_app (goodIn_of _ (by decide +kernel)) (goodIn_ca (a := []) (goodIn_1 418 rfl (by decide +kernel)) law_self)
def wsU_seen : List Cond := .code yL_seen cL_seen 4 (some .long) :: wsL_law
set_option maxRecDepth 20000 in
theorem gsL_seen : GoodIn wsL_law (va_wsS RL 84 yL_seen wsU_seen) := goodIn_app (goodIn_of _ (by decide +kernel)) (goodIn_ca (a := []) (goodIn_1 189 rfl (by decide +kernel)) law_self)
def wsU_arePlots : List Cond := .code yL_arePlots cL_arePlots 12 (some .boolean) :: wsL_law
set_option maxRecDepth 20000 in
theorem gsL_arePlots : GoodIn wsL_law (va_wsS RL 120 yL_arePlots wsU_arePlots) := goodIn_app (goodIn_of _ (by decide +kernel)) (goodIn_ca (a := []) (goodIn_1 436 rfl (by decide +kernel)) law_self)
def wsU_areRows : List Cond := .code yL_areRows cL_areRows 14 (some .boolean) :: wsL_law
set_option maxRecDepth 20000 in
theorem gsL_areRows : GoodIn wsL_law (va_wsS RL 124 yL_areRows wsU_areRows) := goodIn_app (goodIn_of _ (by decide +kernel)) (goodIn_ca (a := []) (goodIn_1 439 rfl (by decide +kernel)) law_self)
def wsU_areCrews : List Cond := .code yL_areCrews cL_areCrews 12 (some .boolean) :: wsL_law
set_option maxRecDepth 20000 in
theorem gsL_areCrews : GoodIn wsL_law (va_wsS RL 127 yL_areCrews wsU_areCrews) := goodIn_app (goodIn_of _ (by decide +kernel)) (goodIn_ca (a := []) (goodIn_1 454 rfl (by decide +kernel)) law_self)
def wsU_refusesAny : List Cond := .code yL_refusesAny cL_refusesAny 6 (some .boolean) :: wsL_law
set_option maxRecDepth 20000 in
theorem gsL_refusesAny : GoodIn wsL_law (va_wsS RL 88 yL_refusesAny wsU_refusesAny) := goodIn_app (goodIn_of _ (by decide +kernel)) (goodIn_ca (a := []) (goodIn_1 214 rfl (by decide +kernel)) law_self)
def wsU_refuses : List Cond := .code yL_refuses cL_refuses 5 (some .boolean) :: wsL_law
set_option maxRecDepth 20000 in
theorem gsL_refuses : GoodIn wsL_law (va_wsS RL 107 yL_refuses wsU_refuses) := goodIn_app (goodIn_of _ (by decide +kernel)) (goodIn_ca (a := []) (goodIn_1 186 rfl (by decide +kernel)) law_self)
def wsU_go : List Cond := .code yL_go cL_go 8 (some .int) :: wsL_law
set_option maxRecDepth 20000 in
theorem gsL_go : GoodIn wsL_law (va_wsS RL 92 yL_go wsU_go) := goodIn_app (goodIn_of _ (by decide +kernel)) (goodIn_ca (a := []) (goodIn_1 427 rfl (by decide +kernel)) law_self)
def wsU_fell : List Cond := .code yL_fell cL_fell 10 (some .int) :: wsL_law
set_option maxRecDepth 20000 in
theorem gsL_fell : GoodIn wsL_law (va_wsS RL 95 yL_fell wsU_fell) := goodIn_app (goodIn_of _ (by decide +kernel)) (goodIn_ca (a := []) (goodIn_1 430 rfl (by decide +kernel)) law_self)
def wsU_hint : List Cond := .code yL_hint cL_hint 7 (some .int) :: wsL_law
set_option maxRecDepth 20000 in
theorem gsL_hint : GoodIn wsL_law (va_wsS RL 98 yL_hint wsU_hint) := goodIn_app (goodIn_of _ (by decide +kernel)) (goodIn_ca (a := []) (goodIn_1 433 rfl (by decide +kernel)) law_self)
def wsU_act : List Cond := .code yL_act cL_act 9 (some .int) :: wsL_law
set_option maxRecDepth 20000 in
theorem gsL_act : GoodIn wsL_law (va_wsS RL 117 yL_act wsU_act) := goodIn_app (goodIn_of _ (by decide +kernel)) (goodIn_ca (a := []) (goodIn_1 424 rfl (by decide +kernel)) law_self)
