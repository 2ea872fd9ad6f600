set_option maxRecDepth 20000 in
theorem gL_law_L_setMensuration : GoodIn wsL_law (va_wsS RL 145 yL_setMensuration wsL_setMensuration) := goodIn_app (goodIn_of _ (by decide +kernel)) ggL_law_L_setMensuration
set_option maxRecDepth 20000 in
theorem ggL_law_X2_setMensuration : GoodIn wsL_law wsX2_setMensuration := goodIn_r _ [234, 81, 125, 126, 127, 5, 128, 82, 86, 87, 88, 89, 90, 91, 92, 83, 84, 85, 93, 94, 95, 96, 34, 235, 236, 237, 238, 32, 239, 240, 241, 242, 35, 37, 635, 636, 637, 638, 639, 640, 641, 642, 643, 644, 645] (by decide +kernel) (by decide +kernel)
set_option maxRecDepth 20000 in
theorem gL_law_X2_setMensuration : GoodIn wsL_law (wsV RL 148 RX2 yX2_setMensuration wsX2_setMensuration) := goodIn_app (goodIn_of _ (by decide +kernel)) ggL_law_X2_setMensuration
set_option maxRecDepth 20000 in
theorem ggL_law_X1_voices : GoodIn wsL_law wsX1_voices := goodIn_r _ [246, 53, 633, 634] (by decide +kernel) (by decide +kernel)
set_option maxRecDepth 20000 in
theorem gL_law_X1_voices : GoodIn wsL_law (wsV RL 149 RX1 yX1_voices wsX1_voices) := goodIn_app (goodIn_of _ (by decide +kernel)) ggL_law_X1_voices
set_option maxRecDepth 20000 in
theorem ggL_law_X2_voices : GoodIn wsL_law wsX2_voices := goodIn_r _ [250, 82, 251, 252, 253, 5, 254, 81, 635, 636, 637, 638, 639, 640, 641, 642, 643, 644, 645] (by decide +kernel) (by decide +kernel)
set_option maxRecDepth 20000 in
theorem gL_law_X2_voices : GoodIn wsL_law (wsV RL 152 RX2 yX2_voices wsX2_voices) := goodIn_app (goodIn_of _ (by decide +kernel)) ggL_law_X2_voices
set_option maxRecDepth 20000 in
theorem ggL_law_L_signs : GoodIn wsL_law wsL_signs := goodIn_ca (goodIn_r _ [257, 104, 258, 259, 260, 2, 261, 109, 110, 111, 112, 113, 114, 53, 14, 646, 647, 648, 649, 650, 651, 652, 653, 654, 655, 633, 634] (by decide +kernel) (by decide +kernel)) (goodIn_sub (fun _ h => List.mem_append_right _ h) (by decide +kernel))
set_option maxRecDepth 20000 in
theorem gL_law_L_signs : GoodIn wsL_law (va_wsS RL 153 yL_signs wsL_signs) := goodIn_app (goodIn_of _ (by decide +kernel)) ggL_law_L_signs
set_option maxRecDepth 20000 in
theorem ggL_law_X2_signs : GoodIn wsL_law wsX2_signs := goodIn_r _ [265, 81, 32, 125, 126, 127, 5, 128, 82, 86, 87, 88, 89, 90, 91, 92, 635, 636, 637, 638, 639, 640, 641, 642, 643, 644, 645] (by decide +kernel) (by decide +kernel)
set_option maxRecDepth 20000 in
theorem gL_law_X2_signs : GoodIn wsL_law (wsV RL 155 RX2 yX2_signs wsX2_signs) := goodIn_app (goodIn_of _ (by decide +kernel)) ggL_law_X2_signs
set_option maxRecDepth 20000 in
theorem ggL_law_L_notes : GoodIn wsL_law wsL_notes := goodIn_ca (goodIn_r _ [268, 104, 269, 270, 271, 2, 272, 109, 110, 111, 112, 113, 114, 53, 14, 273, 16, 274, 275, 72, 276, 196, 197, 198, 23, 633, 634, 646, 647, 648, 649, 650, 651, 652, 653, 654, 655] (by decide +kernel) (by decide +kernel)) (goodIn_sub (fun _ h => List.mem_append_right _ h) (by decide +kernel))
set_option maxRecDepth 20000 in
theorem gL_law_L_notes : GoodIn wsL_law (va_wsS RL 156 yL_notes wsL_notes) := goodIn_app (goodIn_of _ (by decide +kernel)) ggL_law_L_notes
set_option maxRecDepth 20000 in
theorem ggL_law_X2_notes : GoodIn wsL_law wsX2_notes := goodIn_r _ [280, 81, 125, 126, 127, 5, 128, 82, 86, 87, 88, 281, 282, 283, 284, 32, 36, 38, 89, 90, 91, 92, 635, 636, 637, 638, 639, 640, 641, 642, 643, 644, 645] (by decide +kernel) (by decide +kernel)
set_option maxRecDepth 20000 in
theorem gL_law_X2_notes : GoodIn wsL_law (wsV RL 158 RX2 yX2_notes wsX2_notes) := goodIn_app (goodIn_of _ (by decide +kernel)) ggL_law_X2_notes
set_option maxRecDepth 20000 in
theorem ggL_law_L_ligatures : GoodIn wsL_law wsL_ligatures := goodIn_ca (goodIn_r _ [287, 104, 288, 289, 290, 2, 291, 109, 110, 111, 112, 113, 114, 53, 14, 292, 16, 293, 294, 72, 26, 633, 634, 646, 647, 648, 649, 650, 651, 652, 653, 654, 655] (by decide +kernel) (by decide +kernel)) (goodIn_sub (fun _ h => List.mem_append_right _ h) (by decide +kernel))
set_option maxRecDepth 20000 in
theorem gL_law_L_ligatures : GoodIn wsL_law (va_wsS RL 159 yL_ligatures wsL_ligatures) := goodIn_app (goodIn_of _ (by decide +kernel)) ggL_law_L_ligatures
set_option maxRecDepth 20000 in
theorem ggL_law_X2_ligatures : GoodIn wsL_law wsX2_ligatures := goodIn_r _ [298, 81, 125, 126, 127, 5, 128, 82, 86, 87, 88, 281, 282, 283, 284, 32, 36, 38, 89, 90, 91, 92, 635, 636, 637, 638, 639, 640, 641, 642, 643, 644, 645] (by decide +kernel) (by decide +kernel)
set_option maxRecDepth 20000 in
theorem gL_law_X2_ligatures : GoodIn wsL_law (wsV RL 161 RX2 yX2_ligatures wsX2_ligatures) := goodIn_app (goodIn_of _ (by decide +kernel)) ggL_law_X2_ligatures
set_option maxRecDepth 20000 in
theorem ggL_law_L_kindOf : GoodIn wsL_law wsL_kindOf := goodIn_ca (goodIn_r _ [301, 104, 302, 303, 304, 2, 305, 192, 193, 194, 195, 113, 114, 109, 110, 111, 112, 53, 14, 646, 647, 648, 649, 650, 651, 652, 653, 654, 655, 633, 634] (by decide +kernel) (by decide +kernel)) (goodIn_sub (fun _ h => List.mem_append_right _ h) (by decide +kernel))
set_option maxRecDepth 20000 in
theorem gL_law_L_kindOf : GoodIn wsL_law (va_wsS RL 162 yL_kindOf wsL_kindOf) := goodIn_app (goodIn_of _ (by decide +kernel)) ggL_law_L_kindOf
set_option maxRecDepth 20000 in
theorem ggL_law_X2_kindOf : GoodIn wsL_law wsX2_kindOf := goodIn_r _ [309, 35, 310, 311, 312, 5, 313, 81, 206, 207, 208, 209, 32, 125, 126, 127, 128, 82, 86, 87, 88, 89, 90, 91, 92, 635, 636, 637, 638, 639, 640, 641, 642, 643, 644, 645] (by decide +kernel) (by decide +kernel)
set_option maxRecDepth 20000 in
theorem gL_law_X2_kindOf : GoodIn wsL_law (wsV RL 164 RX2 yX2_kindOf wsX2_kindOf) := goodIn_app (goodIn_of _ (by decide +kernel)) ggL_law_X2_kindOf
set_option maxRecDepth 20000 in
theorem ggL_law_L_placeOf : GoodIn wsL_law wsL_placeOf := goodIn_ca (goodIn_r _ [316, 104, 317, 318, 319, 2, 320, 192, 193, 194, 195, 113, 114, 109, 110, 111, 112, 53, 14, 646, 647, 648, 649, 650, 651, 652, 653, 654, 655, 633, 634] (by decide +kernel) (by decide +kernel)) (goodIn_sub (fun _ h => List.mem_append_right _ h) (by decide +kernel))
set_option maxRecDepth 20000 in
theorem gL_law_L_placeOf : GoodIn wsL_law (va_wsS RL 165 yL_placeOf wsL_placeOf) := goodIn_app (goodIn_of _ (by decide +kernel)) ggL_law_L_placeOf
set_option maxRecDepth 20000 in
theorem ggL_law_X2_placeOf : GoodIn wsL_law wsX2_placeOf := goodIn_r _ [324, 36, 310, 311, 312, 5, 313, 81, 206, 207, 208, 209, 32, 125, 126, 127, 128, 82, 86, 87, 88, 89, 90, 91, 92, 635, 636, 637, 638, 639, 640, 641, 642, 643, 644, 645] (by decide +kernel) (by decide +kernel)
set_option maxRecDepth 20000 in
theorem gL_law_X2_placeOf : GoodIn wsL_law (wsV RL 167 RX2 yX2_placeOf wsX2_placeOf) := goodIn_app (goodIn_of _ (by decide +kernel)) ggL_law_X2_placeOf
set_option maxRecDepth 20000 in
theorem ggL_law_L_isColoured : GoodIn wsL_law wsL_isColoured := goodIn_ca (goodIn_r _ [327, 104, 328, 329, 330, 2, 331, 192, 193, 194, 195, 113, 114, 109, 110, 111, 112, 53, 14, 646, 647, 648, 649, 650, 651, 652, 653, 654, 655, 633, 634] (by decide +kernel) (by decide +kernel)) (goodIn_sub (fun _ h => List.mem_append_right _ h) (by decide +kernel))
set_option maxRecDepth 20000 in
theorem gL_law_L_isColoured : GoodIn wsL_law (va_wsS RL 168 yL_isColoured wsL_isColoured) := goodIn_app (goodIn_of _ (by decide +kernel)) ggL_law_L_isColoured
set_option maxRecDepth 20000 in
theorem ggL_law_X2_isColoured : GoodIn wsL_law wsX2_isColoured := goodIn_r _ [335, 81, 37, 206, 207, 208, 5, 209, 32, 125, 126, 127, 128, 82, 86, 87, 88, 635, 636, 637, 638, 639, 640, 641, 642, 643, 644, 645] (by decide +kernel) (by decide +kernel)
set_option maxRecDepth 20000 in
theorem gL_law_X2_isColoured : GoodIn wsL_law (wsV RL 170 RX2 yX2_isColoured wsX2_isColoured) := goodIn_app (goodIn_of _ (by decide +kernel)) ggL_law_X2_isColoured
set_option maxRecDepth 20000 in
theorem ggL_law_L_placeInLigature : GoodIn wsL_law wsL_placeInLigature := goodIn_ca (goodIn_r _ [338, 104, 339, 340, 341, 2, 342, 192, 193, 194, 195, 113, 114, 109, 110, 111, 112, 53, 14, 646, 647, 648, 649, 650, 651, 652, 653, 654, 655, 633, 634] (by decide +kernel) (by decide +kernel)) (goodIn_sub (fun _ h => List.mem_append_right _ h) (by decide +kernel))
set_option maxRecDepth 20000 in
theorem gL_law_L_placeInLigature : GoodIn wsL_law (va_wsS RL 171 yL_placeInLigature wsL_placeInLigature) := goodIn_app (goodIn_of _ (by decide +kernel)) ggL_law_L_placeInLigature
set_option maxRecDepth 20000 in
theorem ggL_law_X2_placeInLigature : GoodIn wsL_law wsX2_placeInLigature := goodIn_r _ [346, 38, 310, 311, 312, 5, 313, 81, 206, 207, 208, 209, 32, 125, 126, 127, 128, 82, 86, 87, 88, 89, 90, 91, 92, 635, 636, 637, 638, 639, 640, 641, 642, 643, 644, 645] (by decide +kernel) (by decide +kernel)
set_option maxRecDepth 20000 in
theorem gL_law_X2_placeInLigature : GoodIn wsL_law (wsV RL 173 RX2 yX2_placeInLigature wsX2_placeInLigature) := goodIn_app (goodIn_of _ (by decide +kernel)) ggL_law_X2_placeInLigature
