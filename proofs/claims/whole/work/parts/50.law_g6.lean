set_option maxRecDepth 20000 in
theorem ggL_law_X2_driftIn : GoodIn wsL_law wsX2_driftIn := goodIn_r _ [589, 85, 43, 147, 148, 149, 5, 150, 131, 90, 91, 92, 93, 94, 95, 96, 590, 591, 592, 593, 44, 594, 595, 596, 597, 226, 227, 228, 229, 230, 231, 232, 233, 41, 234, 197, 198, 199, 235, 201, 202, 236, 216, 217, 237, 238, 239, 240, 42, 598, 599, 600, 601, 706, 707, 708, 709, 710, 711, 712, 713, 714, 715, 716, 717, 718, 719] (by decide +kernel) (by decide +kernel)
set_option maxRecDepth 20000 in
theorem gL_law_X2_driftIn : GoodIn wsL_law (wsV RL 235 RX2 yX2_driftIn wsX2_driftIn) := goodIn_app (goodIn_of _ (by decide +kernel)) ggL_law_X2_driftIn
set_option maxRecDepth 20000 in
theorem ggL_law_L_finesIn : GoodIn wsL_law wsL_finesIn := goodIn_ca (goodIn_r _ [604, 50, 605, 606, 607, 2, 608, 22, 21, 181, 182, 183, 56, 57, 66, 67, 68, 583, 20, 584, 585, 28, 29, 191, 30, 192, 184, 185, 186, 187, 188, 189, 190, 193, 194, 195, 196, 197, 198, 199, 200, 201, 202, 203, 204, 205, 206, 207, 208, 209, 210, 211, 212, 213, 214, 215, 216, 217, 218, 219, 220, 221, 697, 698, 699, 700, 701, 702, 703, 704, 705, 720, 721, 722, 723, 724] (by decide +kernel) (by decide +kernel)) (goodIn_sub (fun _ h => List.mem_append_left _ (List.mem_append_left _ (List.mem_append_right _ h))) (by decide +kernel))
set_option maxRecDepth 20000 in
theorem gL_law_L_finesIn : GoodIn wsL_law (va_wsS RL 236 yL_finesIn wsL_finesIn) := goodIn_app (goodIn_of _ (by decide +kernel)) ggL_law_L_finesIn
set_option maxRecDepth 20000 in
theorem ggL_law_X2_finesIn : GoodIn wsL_law wsX2_finesIn := goodIn_r _ [612, 85, 43, 90, 91, 5, 92, 93, 94, 95, 96, 590, 591, 592, 593, 44, 594, 595, 596, 597, 226, 227, 228, 229, 230, 231, 232, 233, 131, 41, 234, 197, 198, 199, 235, 201, 202, 236, 216, 217, 237, 238, 239, 240, 42, 598, 599, 600, 601, 706, 707, 708, 709, 710, 711, 712, 713, 714, 715, 716, 717, 718, 719] (by decide +kernel) (by decide +kernel)
set_option maxRecDepth 20000 in
theorem gL_law_X2_finesIn : GoodIn wsL_law (wsV RL 238 RX2 yX2_finesIn wsX2_finesIn) := goodIn_app (goodIn_of _ (by decide +kernel)) ggL_law_X2_finesIn
set_option maxRecDepth 20000 in
theorem ggL_law_L_daysUntilFined : GoodIn wsL_law wsL_daysUntilFined := goodIn_ca (goodIn_r _ [615, 49, 616, 617, 618, 2, 619, 22, 21, 139, 140, 141, 142, 64, 65, 66, 67, 68, 583, 20, 584, 585, 28, 29, 191, 30, 192, 204, 205, 206, 207, 208, 209, 210, 188, 189, 190, 193, 194, 195, 196, 197, 198, 199, 200, 201, 202, 203, 211, 212, 213, 214, 215, 216, 217, 218, 219, 220, 221, 697, 698, 699, 700, 701, 702, 703, 704, 705, 720, 721, 722, 723, 724] (by decide +kernel) (by decide +kernel)) (goodIn_sub (fun _ h => List.mem_append_right _ h) (by decide +kernel))
set_option maxRecDepth 20000 in
theorem gL_law_L_daysUntilFined : GoodIn wsL_law (va_wsS RL 239 yL_daysUntilFined wsL_daysUntilFined) := goodIn_app (goodIn_of _ (by decide +kernel)) ggL_law_L_daysUntilFined
set_option maxRecDepth 20000 in
theorem ggL_law_X2_daysUntilFined : GoodIn wsL_law wsX2_daysUntilFined := goodIn_r _ [623, 85, 147, 148, 149, 5, 150, 131, 90, 91, 92, 624, 625, 626, 627, 590, 591, 592, 593, 43, 44, 594, 595, 596, 597, 230, 231, 232, 233, 41, 234, 197, 198, 199, 235, 201, 202, 236, 216, 217, 237, 238, 239, 240, 42, 598, 599, 600, 601, 93, 94, 95, 96, 706, 707, 708, 709, 710, 711, 712, 713, 714, 715, 716, 717, 718, 719] (by decide +kernel) (by decide +kernel)
set_option maxRecDepth 20000 in
theorem gL_law_X2_daysUntilFined : GoodIn wsL_law (wsV RL 241 RX2 yX2_daysUntilFined wsX2_daysUntilFined) := goodIn_app (goodIn_of _ (by decide +kernel)) ggL_law_X2_daysUntilFined
set_option maxRecDepth 20000 in
theorem ggL_law_L_bestDayAt : GoodIn wsL_law wsL_bestDayAt := goodIn_ca (goodIn_r _ [630, 49, 631, 632, 633, 2, 634, 22, 21, 139, 140, 141, 142, 64, 65, 66, 67, 68, 583, 20, 584, 585, 28, 29, 191, 30, 192, 188, 189, 190, 193, 194, 195, 196, 197, 198, 199, 200, 201, 202, 203, 204, 205, 206, 207, 208, 209, 210, 211, 212, 213, 214, 215, 216, 217, 218, 219, 220, 221, 697, 698, 699, 700, 701, 702, 703, 704, 705, 720, 721, 722, 723, 724] (by decide +kernel) (by decide +kernel)) (goodIn_sub (fun _ h => List.mem_append_right _ h) (by decide +kernel))
set_option maxRecDepth 20000 in
theorem gL_law_L_bestDayAt : GoodIn wsL_law (va_wsS RL 242 yL_bestDayAt wsL_bestDayAt) := goodIn_app (goodIn_of _ (by decide +kernel)) ggL_law_L_bestDayAt
set_option maxRecDepth 20000 in
theorem ggL_law_X2_bestDayAt : GoodIn wsL_law wsX2_bestDayAt := goodIn_r _ [638, 85, 147, 148, 149, 5, 150, 131, 90, 91, 92, 639, 640, 641, 642, 43, 590, 591, 592, 593, 44, 594, 595, 596, 597, 230, 231, 232, 233, 41, 234, 197, 198, 199, 235, 201, 202, 236, 216, 217, 237, 238, 239, 240, 42, 598, 599, 600, 601, 93, 94, 95, 96, 706, 707, 708, 709, 710, 711, 712, 713, 714, 715, 716, 717, 718, 719] (by decide +kernel) (by decide +kernel)
set_option maxRecDepth 20000 in
theorem gL_law_X2_bestDayAt : GoodIn wsL_law (wsV RL 244 RX2 yX2_bestDayAt wsX2_bestDayAt) := goodIn_app (goodIn_of _ (by decide +kernel)) ggL_law_X2_bestDayAt
set_option maxRecDepth 20000 in
theorem ggL_law_X1_meanDrift : GoodIn wsL_law wsX1_meanDrift := goodIn_r _ [646, 21, 697, 698, 699, 700, 701, 702, 703, 704, 705, 720, 721, 722, 723, 724] (by decide +kernel) (by decide +kernel)
set_option maxRecDepth 20000 in
theorem gL_law_X1_meanDrift : GoodIn wsL_law (wsV RL 245 RX1 yX1_meanDrift wsX1_meanDrift) := goodIn_app (goodIn_of _ (by decide +kernel)) ggL_law_X1_meanDrift
set_option maxRecDepth 20000 in
theorem ggL_law_X2_meanDrift : GoodIn wsL_law wsX2_meanDrift := goodIn_r _ [650, 85, 131, 43, 706, 707, 708, 709, 710, 711, 712, 713, 714, 715, 716, 717, 718, 719] (by decide +kernel) (by decide +kernel)
set_option maxRecDepth 20000 in
theorem gL_law_X2_meanDrift : GoodIn wsL_law (wsV RL 249 RX2 yX2_meanDrift wsX2_meanDrift) := goodIn_app (goodIn_of _ (by decide +kernel)) ggL_law_X2_meanDrift
set_option maxRecDepth 20000 in
theorem ggL_law_X1_digest : GoodIn wsL_law wsX1_digest := goodIn_ca (goodIn_ca (goodIn_r _ [654, 655, 23, 21, 656, 242, 243, 2, 244, 657, 658, 659, 660, 661, 254, 255, 256, 662, 262, 263, 264, 663, 270, 271, 272, 24, 664, 278, 279, 280, 665, 286, 287, 288, 180, 666, 365, 366, 367, 17, 667, 373, 374, 375, 16, 668, 552, 553, 554, 555, 216, 198, 217, 669, 565, 566, 567, 670, 671, 672, 673, 674, 297, 298, 299, 14, 60, 61, 62, 63, 64, 65, 66, 67, 68, 675, 319, 320, 321, 322, 323, 324, 325, 326, 327, 328, 329, 330, 676, 346, 347, 348, 677, 447, 448, 449, 402, 403, 404, 56, 57, 77, 78, 79, 80, 420, 421, 422, 678, 458, 459, 460, 679, 473, 474, 475, 680, 681, 682, 683, 684, 488, 489, 490, 139, 140, 141, 142, 685, 499, 500, 501, 686, 510, 511, 512, 219, 20, 220, 221, 215, 30, 687, 521, 522, 523, 524, 525, 526, 527, 688, 617, 618, 619, 22, 583, 584, 585, 28, 29, 191, 192, 204, 205, 206, 207, 208, 209, 210, 188, 189, 190, 193, 194, 195, 196, 197, 199, 200, 201, 202, 203, 211, 212, 213, 214, 218, 689, 632, 633, 634, 697, 698, 699, 700, 701, 702, 703, 704, 705, 720, 721, 722, 723, 724] (by decide +kernel) (by decide +kernel)) (goodIn_sub (fun _ h => List.mem_append_right _ h) (by decide +kernel))) (goodIn_sub (fun _ h => List.mem_append_left _ (List.mem_append_left _ (List.mem_append_right _ h))) (by decide +kernel))
set_option maxRecDepth 20000 in
theorem gL_law_X1_digest : GoodIn wsL_law (wsV RL 250 RX1 yX1_digest wsX1_digest) := goodIn_app (goodIn_of _ (by decide +kernel)) ggL_law_X1_digest
set_option maxRecDepth 20000 in
theorem ggL_law_X2_digest : GoodIn wsL_law wsX2_digest := goodIn_r _ [693, 85, 13, 35, 131, 43, 116, 42, 40, 694, 695, 36, 696, 39, 41, 380, 381, 382, 5, 383, 560, 561, 562, 563, 236, 216, 198, 217, 572, 573, 574, 575, 335, 336, 337, 338, 339, 340, 341, 438, 439, 440, 441, 442, 465, 466, 467, 468, 480, 481, 482, 483, 237, 238, 239, 240, 536, 537, 538, 539, 624, 625, 626, 627, 590, 591, 592, 593, 44, 594, 595, 596, 597, 230, 231, 232, 233, 234, 197, 199, 235, 201, 202, 598, 599, 600, 601, 639, 640, 641, 642, 706, 707, 708, 709, 710, 711, 712, 713, 714, 715, 716, 717, 718, 719] (by decide +kernel) (by decide +kernel)
set_option maxRecDepth 20000 in
theorem gL_law_X2_digest : GoodIn wsL_law (wsV RL 254 RX2 yX2_digest wsX2_digest) := goodIn_app (goodIn_of _ (by decide +kernel)) ggL_law_X2_digest
