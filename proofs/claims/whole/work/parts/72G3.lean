set_option maxRecDepth 20000 in
theorem gL_law_X2_clefsThatFit : GoodIn wsL_law (wsV RL 201 RX2 yX2_clefsThatFit wsX2_clefsThatFit) := goodIn_app (goodIn_of _ (by decide +kernel)) ggL_law_X2_clefsThatFit
set_option maxRecDepth 20000 in
theorem ggL_law_L_clashes : GoodIn wsL_law wsL_clashes := goodIn_ca (goodIn_ca (goodIn_r _ [479, 104, 46, 480, 481, 482, 2, 483, 109, 110, 111, 112, 113, 114, 53, 14, 433, 434, 435, 51, 52, 484, 485, 486, 391, 182, 183, 184, 487, 488, 489, 490, 491, 492, 493, 494, 495, 196, 16, 197, 198, 23, 646, 647, 648, 649, 650, 651, 652, 653, 654, 655, 633, 634] (by decide +kernel) (by decide +kernel)) (goodIn_sub (fun _ h => List.mem_append_right _ h) (by decide +kernel))) (goodIn_sub (fun _ h => List.mem_append_left _ (List.mem_append_left _ (List.mem_append_right _ h))) (by decide +kernel))
set_option maxRecDepth 20000 in
theorem gL_law_L_clashes : GoodIn wsL_law (va_wsS RL 202 yL_clashes wsL_clashes) := goodIn_app (goodIn_of _ (by decide +kernel)) ggL_law_L_clashes
set_option maxRecDepth 20000 in
theorem ggL_law_X2_clashes : GoodIn wsL_law wsX2_clashes := goodIn_r _ [499, 500, 501, 502, 5, 503, 81, 33, 125, 126, 127, 128, 82, 86, 87, 88, 89, 90, 91, 92, 504, 505, 506, 507, 39, 40, 508, 488, 183, 489, 509, 510, 511, 512, 32, 36, 239, 240, 241, 242, 35, 37, 34, 513, 514, 515, 516, 494, 495, 635, 636, 637, 638, 639, 640, 641, 642, 643, 644, 645] (by decide +kernel) (by decide +kernel)
set_option maxRecDepth 20000 in
theorem gL_law_X2_clashes : GoodIn wsL_law (wsV RL 204 RX2 yX2_clashes wsX2_clashes) := goodIn_app (goodIn_of _ (by decide +kernel)) ggL_law_X2_clashes
set_option maxRecDepth 20000 in
theorem ggL_law_L_firstClash : GoodIn wsL_law wsL_firstClash := goodIn_ca (goodIn_ca (goodIn_r _ [519, 104, 46, 520, 521, 522, 2, 523, 109, 110, 111, 112, 113, 114, 53, 14, 433, 434, 435, 51, 52, 524, 525, 526, 391, 182, 183, 184, 487, 488, 489, 490, 491, 492, 493, 494, 495, 196, 16, 197, 198, 23, 646, 647, 648, 649, 650, 651, 652, 653, 654, 655, 633, 634] (by decide +kernel) (by decide +kernel)) (goodIn_sub (fun _ h => List.mem_append_right _ h) (by decide +kernel))) (goodIn_sub (fun _ h => List.mem_append_left _ (List.mem_append_left _ (List.mem_append_right _ h))) (by decide +kernel))
set_option maxRecDepth 20000 in
theorem gL_law_L_firstClash : GoodIn wsL_law (va_wsS RL 205 yL_firstClash wsL_firstClash) := goodIn_app (goodIn_of _ (by decide +kernel)) ggL_law_L_firstClash
set_option maxRecDepth 20000 in
theorem ggL_law_X2_firstClash : GoodIn wsL_law wsX2_firstClash := goodIn_r _ [530, 500, 501, 502, 5, 503, 81, 33, 125, 126, 127, 128, 82, 86, 87, 88, 89, 90, 91, 92, 504, 505, 506, 507, 39, 40, 508, 488, 183, 489, 509, 510, 511, 512, 32, 36, 239, 240, 241, 242, 35, 37, 34, 513, 514, 515, 516, 494, 495, 635, 636, 637, 638, 639, 640, 641, 642, 643, 644, 645] (by decide +kernel) (by decide +kernel)
set_option maxRecDepth 20000 in
theorem gL_law_X2_firstClash : GoodIn wsL_law (wsV RL 207 RX2 yX2_firstClash wsX2_firstClash) := goodIn_app (goodIn_of _ (by decide +kernel)) ggL_law_X2_firstClash
set_option maxRecDepth 20000 in
theorem ggL_law_L_clashesWith : GoodIn wsL_law wsL_clashesWith := goodIn_ca (goodIn_ca (goodIn_r _ [533, 104, 45, 534, 535, 536, 2, 537, 109, 110, 111, 112, 113, 114, 53, 14, 57, 58, 59, 60, 61, 538, 539, 540, 541, 484, 485, 486, 391, 182, 183, 184, 487, 488, 489, 490, 491, 492, 493, 494, 495, 196, 16, 197, 198, 23, 633, 634, 646, 647, 648, 649, 650, 651, 652, 653, 654, 655] (by decide +kernel) (by decide +kernel)) (goodIn_sub (fun _ h => List.mem_append_right _ h) (by decide +kernel))) (goodIn_sub (fun _ h => List.mem_append_left _ (List.mem_append_right _ h)) (by decide +kernel))
set_option maxRecDepth 20000 in
theorem gL_law_L_clashesWith : GoodIn wsL_law (va_wsS RL 208 yL_clashesWith wsL_clashesWith) := goodIn_app (goodIn_of _ (by decide +kernel)) ggL_law_L_clashesWith
set_option maxRecDepth 20000 in
theorem ggL_law_X2_clashesWith : GoodIn wsL_law wsX2_clashesWith := goodIn_r _ [545, 81, 125, 126, 127, 5, 128, 82, 86, 87, 88, 89, 90, 91, 92, 546, 547, 548, 549, 33, 504, 505, 506, 507, 39, 40, 508, 488, 183, 489, 509, 510, 511, 512, 32, 36, 239, 240, 241, 242, 35, 37, 34, 513, 514, 515, 516, 494, 495, 635, 636, 637, 638, 639, 640, 641, 642, 643, 644, 645] (by decide +kernel) (by decide +kernel)
set_option maxRecDepth 20000 in
theorem gL_law_X2_clashesWith : GoodIn wsL_law (wsV RL 210 RX2 yX2_clashesWith wsX2_clashesWith) := goodIn_app (goodIn_of _ (by decide +kernel)) ggL_law_X2_clashesWith
set_option maxRecDepth 20000 in
theorem ggL_law_L_bestClef : GoodIn wsL_law wsL_bestClef := goodIn_ca (goodIn_r _ [552, 104, 553, 554, 555, 2, 556, 109, 110, 111, 112, 113, 114, 53, 14, 557, 558, 559, 560, 407, 447, 16, 448, 449, 72, 23, 276, 196, 197, 198, 538, 539, 540, 541, 484, 485, 486, 391, 182, 183, 184, 487, 488, 489, 490, 491, 492, 493, 494, 495, 633, 634, 646, 647, 648, 649, 650, 651, 652, 653, 654, 655] (by decide +kernel) (by decide +kernel)) (goodIn_sub (fun _ h => List.mem_append_right _ h) (by decide +kernel))
set_option maxRecDepth 20000 in
theorem gL_law_L_bestClef : GoodIn wsL_law (va_wsS RL 211 yL_bestClef wsL_bestClef) := goodIn_app (goodIn_of _ (by decide +kernel)) ggL_law_L_bestClef
set_option maxRecDepth 20000 in
theorem ggL_law_X2_bestClef : GoodIn wsL_law wsX2_bestClef := goodIn_r _ [564, 81, 125, 126, 127, 5, 128, 82, 86, 87, 88, 565, 566, 567, 568, 454, 455, 456, 457, 32, 36, 546, 547, 548, 549, 33, 504, 505, 506, 507, 39, 40, 508, 488, 183, 489, 509, 510, 511, 512, 239, 240, 241, 242, 35, 37, 34, 513, 514, 515, 516, 494, 495, 89, 90, 91, 92, 635, 636, 637, 638, 639, 640, 641, 642, 643, 644, 645] (by decide +kernel) (by decide +kernel)
set_option maxRecDepth 20000 in
theorem gL_law_X2_bestClef : GoodIn wsL_law (wsV RL 213 RX2 yX2_bestClef wsX2_bestClef) := goodIn_app (goodIn_of _ (by decide +kernel)) ggL_law_X2_bestClef
set_option maxRecDepth 20000 in
theorem ggL_law_L_canonClashes : GoodIn wsL_law wsL_canonClashes := goodIn_ca (goodIn_ca (goodIn_r _ [571, 104, 45, 572, 573, 574, 2, 575, 109, 110, 111, 112, 113, 114, 53, 14, 57, 58, 59, 60, 61, 484, 485, 486, 391, 182, 183, 184, 487, 488, 489, 490, 491, 492, 493, 494, 495, 196, 16, 197, 198, 23, 633, 634, 646, 647, 648, 649, 650, 651, 652, 653, 654, 655] (by decide +kernel) (by decide +kernel)) (goodIn_sub (fun _ h => List.mem_append_right _ h) (by decide +kernel))) (goodIn_sub (fun _ h => List.mem_append_left _ (List.mem_append_right _ h)) (by decide +kernel))
set_option maxRecDepth 20000 in
theorem gL_law_L_canonClashes : GoodIn wsL_law (va_wsS RL 214 yL_canonClashes wsL_canonClashes) := goodIn_app (goodIn_of _ (by decide +kernel)) ggL_law_L_canonClashes
set_option maxRecDepth 20000 in
theorem ggL_law_X2_canonClashes : GoodIn wsL_law wsX2_canonClashes := goodIn_r _ [579, 81, 39, 125, 126, 127, 5, 128, 82, 86, 87, 88, 89, 90, 91, 92, 509, 510, 511, 512, 32, 36, 239, 240, 241, 242, 35, 37, 34, 580, 581, 582, 583, 513, 514, 515, 516, 494, 183, 495, 635, 636, 637, 638, 639, 640, 641, 642, 643, 644, 645] (by decide +kernel) (by decide +kernel)
set_option maxRecDepth 20000 in
theorem gL_law_X2_canonClashes : GoodIn wsL_law (wsV RL 216 RX2 yX2_canonClashes wsX2_canonClashes) := goodIn_app (goodIn_of _ (by decide +kernel)) ggL_law_X2_canonClashes
set_option maxRecDepth 20000 in
theorem ggL_law_L_bestDelay : GoodIn wsL_law wsL_bestDelay := goodIn_ca (goodIn_ca (goodIn_r _ [586, 104, 45, 587, 588, 589, 2, 590, 109, 110, 111, 112, 113, 114, 53, 14, 57, 58, 59, 60, 61, 591, 592, 593, 407, 484, 485, 486, 391, 182, 183, 184, 487, 488, 489, 490, 491, 492, 493, 494, 495, 196, 16, 197, 198, 23, 633, 634, 646, 647, 648, 649, 650, 651, 652, 653, 654, 655] (by decide +kernel) (by decide +kernel)) (goodIn_sub (fun _ h => List.mem_append_right _ h) (by decide +kernel))) (goodIn_sub (fun _ h => List.mem_append_left _ (List.mem_append_right _ h)) (by decide +kernel))
set_option maxRecDepth 20000 in
theorem gL_law_L_bestDelay : GoodIn wsL_law (va_wsS RL 217 yL_bestDelay wsL_bestDelay) := goodIn_app (goodIn_of _ (by decide +kernel)) ggL_law_L_bestDelay
set_option maxRecDepth 20000 in
theorem ggL_law_X2_bestDelay : GoodIn wsL_law wsX2_bestDelay := goodIn_r _ [597, 81, 125, 126, 127, 5, 128, 82, 86, 87, 88, 89, 90, 91, 92, 598, 599, 600, 601, 39, 509, 510, 511, 512, 32, 36, 239, 240, 241, 242, 35, 37, 34, 580, 581, 582, 583, 513, 514, 515, 516, 494, 183, 495, 635, 636, 637, 638, 639, 640, 641, 642, 643, 644, 645] (by decide +kernel) (by decide +kernel)
set_option maxRecDepth 20000 in
theorem gL_law_X2_bestDelay : GoodIn wsL_law (wsV RL 219 RX2 yX2_bestDelay wsX2_bestDelay) := goodIn_app (goodIn_of _ (by decide +kernel)) ggL_law_X2_bestDelay
set_option maxRecDepth 20000 in
theorem ggL_law_X1_meanLength : GoodIn wsL_law wsX1_meanLength := goodIn_r _ [605, 53, 14, 228, 16, 229, 230, 27, 72, 633, 634, 646, 647, 648, 649, 650, 651, 652, 653, 654, 655] (by decide +kernel) (by decide +kernel)
set_option maxRecDepth 20000 in
theorem gL_law_X1_meanLength : GoodIn wsL_law (wsV RL 220 RX1 yX1_meanLength wsX1_meanLength) := goodIn_app (goodIn_of _ (by decide +kernel)) ggL_law_X1_meanLength
set_option maxRecDepth 20000 in
theorem ggL_law_X2_meanLength : GoodIn wsL_law wsX2_meanLength := goodIn_r _ [609, 81, 82, 235, 236, 237, 5, 238, 32, 239, 240, 241, 242, 35, 37, 34, 635, 636, 637, 638, 639, 640, 641, 642, 643, 644, 645] (by decide +kernel) (by decide +kernel)
set_option maxRecDepth 20000 in
theorem gL_law_X2_meanLength : GoodIn wsL_law (wsV RL 224 RX2 yX2_meanLength wsX2_meanLength) := goodIn_app (goodIn_of _ (by decide +kernel)) ggL_law_X2_meanLength
set_option maxRecDepth 20000 in
theorem ggL_law_X1_digest : GoodIn wsL_law wsX1_digest := goodIn_r _ [613, 614, 53, 14, 615, 616, 2, 617, 618, 619, 388, 389, 390, 391, 182, 183, 184, 228, 16, 229, 230, 27, 72, 620, 621, 622, 623, 273, 274, 275, 276, 196, 197, 198, 23, 292, 293, 294, 26, 465, 466, 467, 468, 447, 448, 449, 557, 558, 559, 560, 407, 538, 539, 540, 541, 484, 485, 486, 487, 488, 489, 490, 491, 492, 493, 494, 495, 591, 592, 593, 624, 625, 626, 354, 355, 356, 633, 634, 646, 647, 648, 649, 650, 651, 652, 653, 654, 655] (by decide +kernel) (by decide +kernel)
set_option maxRecDepth 20000 in
theorem gL_law_X1_digest : GoodIn wsL_law (wsV RL 225 RX1 yX1_digest wsX1_digest) := goodIn_app (goodIn_of _ (by decide +kernel)) ggL_law_X1_digest
set_option maxRecDepth 20000 in
theorem ggL_law_X2_digest : GoodIn wsL_law wsX2_digest := goodIn_r _ [630, 81, 631, 632, 82, 21, 32, 33, 39, 35, 36, 38, 396, 397, 398, 5, 399, 181, 182, 183, 184, 235, 236, 237, 238, 239, 240, 241, 242, 37, 34, 281, 282, 283, 284, 473, 474, 475, 476, 454, 455, 456, 457, 86, 87, 88, 565, 566, 567, 568, 546, 547, 548, 549, 504, 505, 506, 507, 40, 508, 488, 489, 509, 510, 511, 512, 513, 514, 515, 516, 494, 495, 580, 581, 582, 583, 598, 599, 600, 601, 372, 373, 374, 375, 635, 636, 637, 638, 639, 640, 641, 642, 643, 644, 645] (by decide +kernel) (by decide +kernel)
set_option maxRecDepth 20000 in
theorem gL_law_X2_digest : GoodIn wsL_law (wsV RL 229 RX2 yX2_digest wsX2_digest) := goodIn_app (goodIn_of _ (by decide +kernel)) ggL_law_X2_digest
