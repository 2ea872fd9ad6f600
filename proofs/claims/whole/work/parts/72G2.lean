set_option maxRecDepth 20000 in
theorem ggL_law_L_lengthOf : GoodIn wsL_law wsL_lengthOf := goodIn_ca (goodIn_r _ [349, 104, 350, 351, 352, 2, 353, 192, 193, 194, 195, 113, 114, 109, 110, 111, 112, 53, 14, 354, 16, 355, 356, 27, 646, 647, 648, 649, 650, 651, 652, 653, 654, 655, 633, 634] (by decide +kernel) (by decide +kernel)) (goodIn_sub (fun _ h => List.mem_append_right _ h) (by decide +kernel))
set_option maxRecDepth 20000 in
theorem gL_law_L_lengthOf : GoodIn wsL_law (va_wsS RL 174 yL_lengthOf wsL_lengthOf) := goodIn_app (goodIn_of _ (by decide +kernel)) ggL_law_L_lengthOf
set_option maxRecDepth 20000 in
theorem ggL_law_X2_lengthOf : GoodIn wsL_law wsX2_lengthOf := goodIn_r _ [360, 81, 206, 207, 208, 5, 209, 32, 125, 126, 127, 128, 82, 86, 87, 88, 239, 240, 241, 242, 35, 37, 34, 89, 90, 91, 92, 635, 636, 637, 638, 639, 640, 641, 642, 643, 644, 645] (by decide +kernel) (by decide +kernel)
set_option maxRecDepth 20000 in
theorem gL_law_X2_lengthOf : GoodIn wsL_law (wsV RL 176 RX2 yX2_lengthOf wsX2_lengthOf) := goodIn_app (goodIn_of _ (by decide +kernel)) ggL_law_X2_lengthOf
set_option maxRecDepth 20000 in
theorem ggL_law_L_beginOf : GoodIn wsL_law wsL_beginOf := goodIn_ca (goodIn_r _ [363, 104, 364, 365, 366, 2, 367, 192, 193, 194, 195, 113, 114, 109, 110, 111, 112, 53, 14, 646, 647, 648, 649, 650, 651, 652, 653, 654, 655, 633, 634] (by decide +kernel) (by decide +kernel)) (goodIn_sub (fun _ h => List.mem_append_right _ h) (by decide +kernel))
set_option maxRecDepth 20000 in
theorem gL_law_L_beginOf : GoodIn wsL_law (va_wsS RL 177 yL_beginOf wsL_beginOf) := goodIn_app (goodIn_of _ (by decide +kernel)) ggL_law_L_beginOf
set_option maxRecDepth 20000 in
theorem ggL_law_X2_beginOf : GoodIn wsL_law wsX2_beginOf := goodIn_r _ [371, 81, 206, 207, 208, 5, 209, 32, 125, 126, 127, 128, 82, 86, 87, 88, 372, 373, 374, 375, 239, 240, 241, 242, 35, 37, 34, 89, 90, 91, 92, 635, 636, 637, 638, 639, 640, 641, 642, 643, 644, 645] (by decide +kernel) (by decide +kernel)
set_option maxRecDepth 20000 in
theorem gL_law_X2_beginOf : GoodIn wsL_law (wsV RL 179 RX2 yX2_beginOf wsX2_beginOf) := goodIn_app (goodIn_of _ (by decide +kernel)) ggL_law_X2_beginOf
set_option maxRecDepth 20000 in
theorem ggL_law_L_length : GoodIn wsL_law wsL_length := goodIn_ca (goodIn_r _ [378, 104, 379, 380, 381, 2, 382, 109, 110, 111, 112, 113, 114, 53, 14, 228, 16, 229, 230, 27, 72, 633, 634, 646, 647, 648, 649, 650, 651, 652, 653, 654, 655] (by decide +kernel) (by decide +kernel)) (goodIn_sub (fun _ h => List.mem_append_right _ h) (by decide +kernel))
set_option maxRecDepth 20000 in
theorem gL_law_L_length : GoodIn wsL_law (va_wsS RL 180 yL_length wsL_length) := goodIn_app (goodIn_of _ (by decide +kernel)) ggL_law_L_length
set_option maxRecDepth 20000 in
theorem ggL_law_X2_length : GoodIn wsL_law wsX2_length := goodIn_r _ [386, 81, 125, 126, 127, 5, 128, 82, 86, 87, 88, 235, 236, 237, 238, 32, 239, 240, 241, 242, 35, 37, 34, 89, 90, 91, 92, 635, 636, 637, 638, 639, 640, 641, 642, 643, 644, 645] (by decide +kernel) (by decide +kernel)
set_option maxRecDepth 20000 in
theorem gL_law_X2_length : GoodIn wsL_law (wsV RL 182 RX2 yX2_length wsX2_length) := goodIn_app (goodIn_of _ (by decide +kernel)) ggL_law_X2_length
set_option maxRecDepth 20000 in
theorem ggL_law_X1_longest : GoodIn wsL_law wsX1_longest := goodIn_r _ [390, 53, 14, 391, 182, 183, 184, 228, 16, 229, 230, 27, 72, 633, 634, 646, 647, 648, 649, 650, 651, 652, 653, 654, 655] (by decide +kernel) (by decide +kernel)
set_option maxRecDepth 20000 in
theorem gL_law_X1_longest : GoodIn wsL_law (wsV RL 183 RX1 yX1_longest wsX1_longest) := goodIn_app (goodIn_of _ (by decide +kernel)) ggL_law_X1_longest
set_option maxRecDepth 20000 in
theorem ggL_law_X2_longest : GoodIn wsL_law wsX2_longest := goodIn_r _ [395, 396, 397, 398, 5, 399, 82, 181, 182, 183, 184, 235, 236, 237, 238, 32, 239, 240, 241, 242, 35, 37, 34, 251, 252, 253, 254, 81, 635, 636, 637, 638, 639, 640, 641, 642, 643, 644, 645] (by decide +kernel) (by decide +kernel)
set_option maxRecDepth 20000 in
theorem gL_law_X2_longest : GoodIn wsL_law (wsV RL 186 RX2 yX2_longest wsX2_longest) := goodIn_app (goodIn_of _ (by decide +kernel)) ggL_law_X2_longest
set_option maxRecDepth 20000 in
theorem ggL_law_L_signAt : GoodIn wsL_law wsL_signAt := goodIn_ca (goodIn_ca (goodIn_r _ [402, 104, 45, 403, 404, 405, 2, 406, 407, 109, 110, 111, 112, 113, 114, 53, 14, 57, 58, 59, 60, 61, 408, 16, 409, 410, 72, 27, 633, 634, 646, 647, 648, 649, 650, 651, 652, 653, 654, 655] (by decide +kernel) (by decide +kernel)) (goodIn_sub (fun _ h => List.mem_append_right _ h) (by decide +kernel))) (goodIn_sub (fun _ h => List.mem_append_left _ (List.mem_append_right _ h)) (by decide +kernel))
set_option maxRecDepth 20000 in
theorem gL_law_L_signAt : GoodIn wsL_law (va_wsS RL 187 yL_signAt wsL_signAt) := goodIn_app (goodIn_of _ (by decide +kernel)) ggL_law_L_signAt
set_option maxRecDepth 20000 in
theorem ggL_law_X2_signAt : GoodIn wsL_law wsX2_signAt := goodIn_r _ [414, 81, 32, 125, 126, 127, 5, 128, 82, 86, 87, 88, 89, 90, 91, 92, 239, 240, 241, 242, 35, 37, 34, 635, 636, 637, 638, 639, 640, 641, 642, 643, 644, 645] (by decide +kernel) (by decide +kernel)
set_option maxRecDepth 20000 in
theorem gL_law_X2_signAt : GoodIn wsL_law (wsV RL 189 RX2 yX2_signAt wsX2_signAt) := goodIn_app (goodIn_of _ (by decide +kernel)) ggL_law_X2_signAt
set_option maxRecDepth 20000 in
theorem ggL_law_L_clefOf : GoodIn wsL_law wsL_clefOf := goodIn_ca (goodIn_r _ [417, 104, 418, 419, 420, 2, 421, 109, 110, 111, 112, 113, 114, 53, 14, 646, 647, 648, 649, 650, 651, 652, 653, 654, 655, 633, 634] (by decide +kernel) (by decide +kernel)) (goodIn_sub (fun _ h => List.mem_append_right _ h) (by decide +kernel))
set_option maxRecDepth 20000 in
theorem gL_law_L_clefOf : GoodIn wsL_law (va_wsS RL 190 yL_clefOf wsL_clefOf) := goodIn_app (goodIn_of _ (by decide +kernel)) ggL_law_L_clefOf
set_option maxRecDepth 20000 in
theorem ggL_law_X2_clefOf : GoodIn wsL_law wsX2_clefOf := goodIn_r _ [425, 81, 33, 125, 126, 127, 5, 128, 82, 86, 87, 88, 89, 90, 91, 92, 635, 636, 637, 638, 639, 640, 641, 642, 643, 644, 645] (by decide +kernel) (by decide +kernel)
set_option maxRecDepth 20000 in
theorem gL_law_X2_clefOf : GoodIn wsL_law (wsV RL 192 RX2 yX2_clefOf wsX2_clefOf) := goodIn_app (goodIn_of _ (by decide +kernel)) ggL_law_X2_clefOf
set_option maxRecDepth 20000 in
theorem ggL_law_L_pitchOf : GoodIn wsL_law wsL_pitchOf := goodIn_ca (goodIn_ca (goodIn_r _ [428, 104, 46, 429, 430, 431, 2, 432, 192, 193, 194, 195, 113, 114, 109, 110, 111, 112, 53, 14, 433, 434, 435, 51, 52, 196, 16, 197, 198, 23, 646, 647, 648, 649, 650, 651, 652, 653, 654, 655, 633, 634] (by decide +kernel) (by decide +kernel)) (goodIn_sub (fun _ h => List.mem_append_right _ h) (by decide +kernel))) (goodIn_sub (fun _ h => List.mem_append_left _ (List.mem_append_left _ (List.mem_append_right _ h))) (by decide +kernel))
set_option maxRecDepth 20000 in
theorem gL_law_L_pitchOf : GoodIn wsL_law (va_wsS RL 193 yL_pitchOf wsL_pitchOf) := goodIn_app (goodIn_of _ (by decide +kernel)) ggL_law_L_pitchOf
set_option maxRecDepth 20000 in
theorem ggL_law_X2_pitchOf : GoodIn wsL_law wsX2_pitchOf := goodIn_r _ [439, 81, 33, 36, 206, 207, 208, 5, 209, 32, 125, 126, 127, 128, 82, 86, 87, 88, 89, 90, 91, 92, 635, 636, 637, 638, 639, 640, 641, 642, 643, 644, 645] (by decide +kernel) (by decide +kernel)
set_option maxRecDepth 20000 in
theorem gL_law_X2_pitchOf : GoodIn wsL_law (wsV RL 195 RX2 yX2_pitchOf wsX2_pitchOf) := goodIn_app (goodIn_of _ (by decide +kernel)) ggL_law_X2_pitchOf
set_option maxRecDepth 20000 in
theorem ggL_law_L_fits : GoodIn wsL_law wsL_fits := goodIn_ca (goodIn_ca (goodIn_r _ [442, 104, 45, 443, 444, 445, 2, 446, 109, 110, 111, 112, 113, 114, 53, 14, 57, 58, 59, 60, 61, 447, 16, 448, 449, 72, 23, 276, 196, 197, 198, 633, 634, 646, 647, 648, 649, 650, 651, 652, 653, 654, 655] (by decide +kernel) (by decide +kernel)) (goodIn_sub (fun _ h => List.mem_append_right _ h) (by decide +kernel))) (goodIn_sub (fun _ h => List.mem_append_left _ (List.mem_append_right _ h)) (by decide +kernel))
set_option maxRecDepth 20000 in
theorem gL_law_L_fits : GoodIn wsL_law (va_wsS RL 196 yL_fits wsL_fits) := goodIn_app (goodIn_of _ (by decide +kernel)) ggL_law_L_fits
set_option maxRecDepth 20000 in
theorem ggL_law_X2_fits : GoodIn wsL_law wsX2_fits := goodIn_r _ [453, 81, 125, 126, 127, 5, 128, 82, 86, 87, 88, 454, 455, 456, 457, 32, 36, 635, 636, 637, 638, 639, 640, 641, 642, 643, 644, 645] (by decide +kernel) (by decide +kernel)
set_option maxRecDepth 20000 in
theorem gL_law_X2_fits : GoodIn wsL_law (wsV RL 198 RX2 yX2_fits wsX2_fits) := goodIn_app (goodIn_of _ (by decide +kernel)) ggL_law_X2_fits
set_option maxRecDepth 20000 in
theorem ggL_law_L_clefsThatFit : GoodIn wsL_law wsL_clefsThatFit := goodIn_ca (goodIn_r _ [460, 104, 461, 462, 463, 2, 464, 109, 110, 111, 112, 113, 114, 53, 14, 465, 16, 466, 467, 468, 447, 448, 449, 72, 23, 276, 196, 197, 198, 633, 634, 646, 647, 648, 649, 650, 651, 652, 653, 654, 655] (by decide +kernel) (by decide +kernel)) (goodIn_sub (fun _ h => List.mem_append_right _ h) (by decide +kernel))
set_option maxRecDepth 20000 in
theorem gL_law_L_clefsThatFit : GoodIn wsL_law (va_wsS RL 199 yL_clefsThatFit wsL_clefsThatFit) := goodIn_app (goodIn_of _ (by decide +kernel)) ggL_law_L_clefsThatFit
set_option maxRecDepth 20000 in
theorem ggL_law_X2_clefsThatFit : GoodIn wsL_law wsX2_clefsThatFit := goodIn_r _ [472, 81, 125, 126, 127, 5, 128, 82, 86, 87, 88, 473, 474, 475, 476, 454, 455, 456, 457, 32, 36, 89, 90, 91, 92, 635, 636, 637, 638, 639, 640, 641, 642, 643, 644, 645] (by decide +kernel) (by decide +kernel)
