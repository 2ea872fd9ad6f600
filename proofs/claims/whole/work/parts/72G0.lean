set_option maxRecDepth 20000 in
theorem ggL_law_X1_init : GoodIn wsL_law wsX1_init := goodIn_r _ [9, 10, 11, 12, 13, 14, 15, 16, 17, 18, 19, 20, 21, 22, 23, 24, 25, 26, 27, 633, 634, 646, 647, 648, 649, 650, 651, 652, 653, 654, 655] (by decide +kernel) (by decide +kernel)
set_option maxRecDepth 20000 in
theorem gL_law_X1_init : GoodIn wsL_law (wsX1_init) := ggL_law_X1_init
set_option maxRecDepth 20000 in
theorem ggL_law_X2_init : GoodIn wsL_law wsX2_init := goodIn_r _ [30, 31, 11, 12, 21, 32, 33, 34, 35, 36, 24, 37, 38, 39, 40, 635, 636, 637, 638, 639, 640, 641, 642, 643, 644, 645] (by decide +kernel) (by decide +kernel)
set_option maxRecDepth 20000 in
theorem gL_law_X2_init : GoodIn wsL_law (wsX2_init) := ggL_law_X2_init
set_option maxRecDepth 20000 in
theorem ggL_law_L_addVoice : GoodIn wsL_law wsL_addVoice := goodIn_ca (goodIn_ca (goodIn_r _ [44, 45, 46, 47, 48, 49, 2, 50, 51, 52, 53, 14, 54, 55, 56, 57, 58, 59, 60, 61, 62, 16, 63, 64, 65, 66, 67, 68, 69, 70, 71, 72, 27, 22, 25, 73, 74, 75, 76, 633, 634, 646, 647, 648, 649, 650, 651, 652, 653, 654, 655] (by decide +kernel) (by decide +kernel)) (goodIn_sub (fun _ h => List.mem_append_left _ (List.mem_append_left _ (List.mem_append_right _ h))) (by decide +kernel))) (goodIn_sub (fun _ h => List.mem_append_left _ (List.mem_append_right _ h)) (by decide +kernel))
set_option maxRecDepth 20000 in
theorem gL_law_L_addVoice : GoodIn wsL_law (va_wsS RL 113 yL_addVoice wsL_addVoice) := goodIn_app (goodIn_of _ (by decide +kernel)) ggL_law_L_addVoice
set_option maxRecDepth 20000 in
theorem ggL_law_X2_addVoice : GoodIn wsL_law wsX2_addVoice := goodIn_r _ [80, 81, 82, 33, 83, 84, 5, 85, 86, 87, 88, 89, 90, 91, 92, 93, 94, 95, 96, 34, 635, 636, 637, 638, 639, 640, 641, 642, 643, 644, 645] (by decide +kernel) (by decide +kernel)
set_option maxRecDepth 20000 in
theorem gL_law_X2_addVoice : GoodIn wsL_law (wsV RL 118 RX2 yX2_addVoice wsX2_addVoice) := goodIn_app (goodIn_of _ (by decide +kernel)) ggL_law_X2_addVoice
set_option maxRecDepth 20000 in
theorem ggL_law_X2_thrown : GoodIn wsL_law wsX2_thrown := goodIn_r _ [100, 81, 635, 636, 637, 638, 639, 640, 641, 642, 643, 644, 645] (by decide +kernel) (by decide +kernel)
set_option maxRecDepth 20000 in
theorem gL_law_X2_thrown : GoodIn wsL_law (wsV RL 119 RX2 yX2_thrown wsX2_thrown) := goodIn_app (goodIn_of _ (by decide +kernel)) ggL_law_X2_thrown
set_option maxRecDepth 20000 in
theorem ggL_law_L_addNote : GoodIn wsL_law wsL_addNote := goodIn_ca (goodIn_ca (goodIn_ca (goodIn_r _ [103, 104, 45, 46, 105, 106, 107, 2, 108, 109, 110, 111, 112, 113, 114, 53, 14, 57, 58, 59, 60, 61, 115, 116, 117, 51, 52, 118, 16, 119, 120, 72, 22, 23, 25, 26, 68, 69, 70, 71, 27, 73, 74, 75, 76, 65, 66, 67, 633, 634, 646, 647, 648, 649, 650, 651, 652, 653, 654, 655] (by decide +kernel) (by decide +kernel)) (goodIn_sub (fun _ h => List.mem_append_right _ h) (by decide +kernel))) (goodIn_sub (fun _ h => List.mem_append_left _ (List.mem_append_right _ h)) (by decide +kernel))) (goodIn_sub (fun _ h => List.mem_append_left _ (List.mem_append_left _ (List.mem_append_right _ h))) (by decide +kernel))
set_option maxRecDepth 20000 in
theorem gL_law_L_addNote : GoodIn wsL_law (va_wsS RL 123 yL_addNote wsL_addNote) := goodIn_app (goodIn_of _ (by decide +kernel)) ggL_law_L_addNote
set_option maxRecDepth 20000 in
theorem ggL_law_X2_addNote : GoodIn wsL_law wsX2_addNote := goodIn_r _ [124, 81, 32, 125, 126, 127, 5, 128, 82, 86, 87, 88, 89, 90, 91, 92, 129, 130, 131, 132, 35, 36, 37, 38, 635, 636, 637, 638, 639, 640, 641, 642, 643, 644, 645] (by decide +kernel) (by decide +kernel)
set_option maxRecDepth 20000 in
theorem gL_law_X2_addNote : GoodIn wsL_law (wsV RL 126 RX2 yX2_addNote wsX2_addNote) := goodIn_app (goodIn_of _ (by decide +kernel)) ggL_law_X2_addNote
set_option maxRecDepth 20000 in
theorem ggL_law_L_addRest : GoodIn wsL_law wsL_addRest := goodIn_ca (goodIn_ca (goodIn_ca (goodIn_r _ [135, 104, 45, 46, 136, 137, 138, 2, 139, 109, 110, 111, 112, 113, 114, 53, 14, 57, 58, 59, 60, 61, 115, 116, 117, 51, 52, 118, 16, 119, 120, 72, 22, 23, 25, 26, 68, 69, 70, 71, 27, 73, 74, 75, 76, 65, 66, 67, 633, 634, 646, 647, 648, 649, 650, 651, 652, 653, 654, 655] (by decide +kernel) (by decide +kernel)) (goodIn_sub (fun _ h => List.mem_append_right _ h) (by decide +kernel))) (goodIn_sub (fun _ h => List.mem_append_left _ (List.mem_append_right _ h)) (by decide +kernel))) (goodIn_sub (fun _ h => List.mem_append_left _ (List.mem_append_left _ (List.mem_append_right _ h))) (by decide +kernel))
set_option maxRecDepth 20000 in
theorem gL_law_L_addRest : GoodIn wsL_law (va_wsS RL 127 yL_addRest wsL_addRest) := goodIn_app (goodIn_of _ (by decide +kernel)) ggL_law_L_addRest
set_option maxRecDepth 20000 in
theorem ggL_law_X2_addRest : GoodIn wsL_law wsX2_addRest := goodIn_r _ [143, 81, 32, 125, 126, 127, 5, 128, 82, 86, 87, 88, 89, 90, 91, 92, 129, 130, 131, 132, 35, 36, 37, 38, 635, 636, 637, 638, 639, 640, 641, 642, 643, 644, 645] (by decide +kernel) (by decide +kernel)
set_option maxRecDepth 20000 in
theorem gL_law_X2_addRest : GoodIn wsL_law (wsV RL 130 RX2 yX2_addRest wsX2_addRest) := goodIn_app (goodIn_of _ (by decide +kernel)) ggL_law_X2_addRest
set_option maxRecDepth 20000 in
theorem ggL_law_L_addLigature : GoodIn wsL_law wsL_addLigature := goodIn_ca (goodIn_ca (goodIn_ca (goodIn_r _ [146, 104, 45, 46, 147, 148, 149, 2, 150, 109, 110, 111, 112, 113, 114, 53, 14, 151, 152, 153, 60, 61, 57, 58, 59, 115, 116, 117, 51, 52, 154, 155, 156, 157, 158, 159, 118, 16, 119, 120, 72, 22, 23, 25, 26, 68, 69, 70, 71, 27, 73, 74, 75, 76, 65, 66, 67, 160, 161, 162, 633, 634, 646, 647, 648, 649, 650, 651, 652, 653, 654, 655] (by decide +kernel) (by decide +kernel)) (goodIn_sub (fun _ h => List.mem_append_right _ h) (by decide +kernel))) (goodIn_sub (fun _ h => List.mem_append_left _ (List.mem_append_right _ h)) (by decide +kernel))) (goodIn_sub (fun _ h => List.mem_append_left _ (List.mem_append_left _ (List.mem_append_right _ h))) (by decide +kernel))
set_option maxRecDepth 20000 in
theorem gL_law_L_addLigature : GoodIn wsL_law (va_wsS RL 131 yL_addLigature wsL_addLigature) := goodIn_app (goodIn_of _ (by decide +kernel)) ggL_law_L_addLigature
set_option maxRecDepth 20000 in
theorem ggL_law_X2_addLigature : GoodIn wsL_law wsX2_addLigature := goodIn_r _ [166, 81, 32, 125, 126, 127, 5, 128, 82, 86, 87, 88, 89, 90, 91, 92, 129, 130, 131, 132, 35, 36, 37, 38, 635, 636, 637, 638, 639, 640, 641, 642, 643, 644, 645] (by decide +kernel) (by decide +kernel)
set_option maxRecDepth 20000 in
theorem gL_law_X2_addLigature : GoodIn wsL_law (wsV RL 134 RX2 yX2_addLigature wsX2_addLigature) := goodIn_app (goodIn_of _ (by decide +kernel)) ggL_law_X2_addLigature
set_option maxRecDepth 20000 in
theorem ggL_law_L_erase : GoodIn wsL_law wsL_erase := goodIn_ca (goodIn_ca (goodIn_r _ [169, 104, 46, 170, 171, 172, 2, 173, 51, 52, 109, 110, 111, 112, 113, 114, 53, 14, 174, 16, 175, 176, 26, 72, 646, 647, 648, 649, 650, 651, 652, 653, 654, 655, 633, 634] (by decide +kernel) (by decide +kernel)) (goodIn_sub (fun _ h => List.mem_append_left _ (List.mem_append_left _ (List.mem_append_right _ h))) (by decide +kernel))) (goodIn_sub (fun _ h => List.mem_append_right _ h) (by decide +kernel))
set_option maxRecDepth 20000 in
theorem gL_law_L_erase : GoodIn wsL_law (va_wsS RL 135 yL_erase wsL_erase) := goodIn_app (goodIn_of _ (by decide +kernel)) ggL_law_L_erase
set_option maxRecDepth 20000 in
theorem ggL_law_X2_erase : GoodIn wsL_law wsX2_erase := goodIn_r _ [180, 81, 32, 38, 181, 182, 183, 184, 125, 126, 127, 5, 128, 82, 86, 87, 88, 89, 90, 91, 92, 635, 636, 637, 638, 639, 640, 641, 642, 643, 644, 645] (by decide +kernel) (by decide +kernel)
set_option maxRecDepth 20000 in
theorem gL_law_X2_erase : GoodIn wsL_law (wsV RL 138 RX2 yX2_erase wsX2_erase) := goodIn_app (goodIn_of _ (by decide +kernel)) ggL_law_X2_erase
set_option maxRecDepth 20000 in
theorem ggL_law_L_recolour : GoodIn wsL_law wsL_recolour := goodIn_ca (goodIn_ca (goodIn_r _ [187, 104, 46, 188, 189, 190, 2, 191, 51, 52, 192, 193, 194, 195, 113, 114, 109, 110, 111, 112, 53, 14, 196, 16, 197, 198, 23, 199, 200, 201, 25, 68, 69, 70, 71, 72, 27, 22, 73, 74, 75, 76, 65, 66, 67, 646, 647, 648, 649, 650, 651, 652, 653, 654, 655, 633, 634] (by decide +kernel) (by decide +kernel)) (goodIn_sub (fun _ h => List.mem_append_left _ (List.mem_append_left _ (List.mem_append_right _ h))) (by decide +kernel))) (goodIn_sub (fun _ h => List.mem_append_right _ h) (by decide +kernel))
set_option maxRecDepth 20000 in
theorem gL_law_L_recolour : GoodIn wsL_law (va_wsS RL 139 yL_recolour wsL_recolour) := goodIn_app (goodIn_of _ (by decide +kernel)) ggL_law_L_recolour
set_option maxRecDepth 20000 in
theorem ggL_law_X2_recolour : GoodIn wsL_law wsX2_recolour := goodIn_r _ [205, 36, 81, 37, 206, 207, 208, 5, 209, 32, 125, 126, 127, 128, 82, 86, 87, 88, 635, 636, 637, 638, 639, 640, 641, 642, 643, 644, 645] (by decide +kernel) (by decide +kernel)
set_option maxRecDepth 20000 in
theorem gL_law_X2_recolour : GoodIn wsL_law (wsV RL 141 RX2 yX2_recolour wsX2_recolour) := goodIn_app (goodIn_of _ (by decide +kernel)) ggL_law_X2_recolour
set_option maxRecDepth 20000 in
theorem ggL_law_L_setClef : GoodIn wsL_law wsL_setClef := goodIn_ca (goodIn_ca (goodIn_r _ [212, 104, 45, 213, 214, 215, 2, 216, 109, 110, 111, 112, 113, 114, 53, 14, 57, 58, 59, 60, 61, 646, 647, 648, 649, 650, 651, 652, 653, 654, 655, 633, 634] (by decide +kernel) (by decide +kernel)) (goodIn_sub (fun _ h => List.mem_append_right _ h) (by decide +kernel))) (goodIn_sub (fun _ h => List.mem_append_left _ (List.mem_append_right _ h)) (by decide +kernel))
set_option maxRecDepth 20000 in
theorem gL_law_L_setClef : GoodIn wsL_law (va_wsS RL 142 yL_setClef wsL_setClef) := goodIn_app (goodIn_of _ (by decide +kernel)) ggL_law_L_setClef
set_option maxRecDepth 20000 in
theorem ggL_law_X2_setClef : GoodIn wsL_law wsX2_setClef := goodIn_r _ [220, 81, 33, 125, 126, 127, 5, 128, 82, 86, 87, 88, 89, 90, 91, 92, 635, 636, 637, 638, 639, 640, 641, 642, 643, 644, 645] (by decide +kernel) (by decide +kernel)
set_option maxRecDepth 20000 in
theorem gL_law_X2_setClef : GoodIn wsL_law (wsV RL 144 RX2 yX2_setClef wsX2_setClef) := goodIn_app (goodIn_of _ (by decide +kernel)) ggL_law_X2_setClef
set_option maxRecDepth 20000 in
theorem ggL_law_L_setMensuration : GoodIn wsL_law wsL_setMensuration := goodIn_ca (goodIn_ca (goodIn_r _ [223, 104, 45, 224, 225, 226, 2, 227, 109, 110, 111, 112, 113, 114, 53, 14, 54, 55, 56, 57, 58, 59, 60, 61, 62, 16, 63, 64, 65, 66, 67, 68, 69, 70, 71, 72, 27, 22, 25, 73, 74, 75, 76, 228, 229, 230, 633, 634, 646, 647, 648, 649, 650, 651, 652, 653, 654, 655] (by decide +kernel) (by decide +kernel)) (goodIn_sub (fun _ h => List.mem_append_right _ h) (by decide +kernel))) (goodIn_sub (fun _ h => List.mem_append_left _ (List.mem_append_right _ h)) (by decide +kernel))
