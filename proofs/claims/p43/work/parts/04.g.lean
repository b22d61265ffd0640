set_option maxRecDepth 20000 in
theorem ggL_law_X1_wearOf : GoodIn wsL_law wsX1_wearOf := goodIn_ca (goodIn_r _ [280, 30, 116, 117, 118, 2, 119, 84, 85, 86, 87, 88, 337, 338, 339, 340, 341, 342, 343, 344, 345, 346, 347, 348, 349, 350] (by decide +kernel) (by decide +kernel)) (goodIn_sub (fun _ h => List.mem_append_right _ h) (by decide +kernel))
set_option maxRecDepth 20000 in
theorem gL_law_X1_wearOf : GoodIn wsL_law (wsV RL 151 RX1 yX1_wearOf wsX1_wearOf) := goodIn_app (goodIn_of _ (by decide +kernel)) ggL_law_X1_wearOf
set_option maxRecDepth 20000 in
theorem ggL_law_X1_mostHonest : GoodIn wsL_law wsX1_mostHonest := goodIn_r _ [284, 30, 285, 6, 7, 8, 337, 338, 339, 340, 341, 342, 343, 344, 345, 346, 347, 348, 349, 350] (by decide +kernel) (by decide +kernel)
set_option maxRecDepth 20000 in
theorem gL_law_X1_mostHonest : GoodIn wsL_law (wsV RL 156 RX1 yX1_mostHonest wsX1_mostHonest) := goodIn_app (goodIn_of _ (by decide +kernel)) ggL_law_X1_mostHonest
set_option maxRecDepth 20000 in
theorem ggL_law_X1_mostGenerous : GoodIn wsL_law wsX1_mostGenerous := goodIn_r _ [289, 30, 337, 338, 339, 340, 341, 342, 343, 344, 345, 346, 347, 348, 349, 350] (by decide +kernel) (by decide +kernel)
set_option maxRecDepth 20000 in
theorem gL_law_X1_mostGenerous : GoodIn wsL_law (wsV RL 159 RX1 yX1_mostGenerous wsX1_mostGenerous) := goodIn_app (goodIn_of _ (by decide +kernel)) ggL_law_X1_mostGenerous
set_option maxRecDepth 20000 in
theorem ggL_law_X1_days : GoodIn wsL_law wsX1_days := goodIn_r _ [293, 30, 337, 338, 339, 340, 341, 342, 343, 344, 345, 346, 347, 348, 349, 350] (by decide +kernel) (by decide +kernel)
set_option maxRecDepth 20000 in
theorem gL_law_X1_days : GoodIn wsL_law (wsV RL 162 RX1 yX1_days wsX1_days) := goodIn_app (goodIn_of _ (by decide +kernel)) ggL_law_X1_days
set_option maxRecDepth 20000 in
theorem ggL_law_X1_fines : GoodIn wsL_law wsX1_fines := goodIn_r _ [297, 132, 337, 338, 339, 340, 341, 342, 343, 344, 345] (by decide +kernel) (by decide +kernel)
set_option maxRecDepth 20000 in
theorem gL_law_X1_fines : GoodIn wsL_law (wsV RL 165 RX1 yX1_fines wsX1_fines) := goodIn_app (goodIn_of _ (by decide +kernel)) ggL_law_X1_fines
set_option maxRecDepth 20000 in
theorem ggL_law_X1_passDays : GoodIn wsL_law wsX1_passDays := goodIn_ca (goodIn_r _ [131, 30, 132, 133, 134, 2, 135, 76, 77, 86, 87, 88, 136, 29, 137, 138, 139, 140, 141, 142, 143, 38, 37, 144, 145, 146, 147, 148, 10, 7, 11, 149, 13, 14, 150, 151, 152, 153, 154, 155, 156, 157, 158, 159, 160, 161, 162, 6, 8, 163, 164, 165, 166, 39, 337, 338, 339, 340, 341, 342, 343, 344, 345, 346, 347, 348, 349, 350] (by decide +kernel) (by decide +kernel)) (goodIn_sub (fun _ h => List.mem_append_left _ (List.mem_append_left _ (List.mem_append_right _ h))) (by decide +kernel))
set_option maxRecDepth 20000 in
theorem gL_law_X1_passDays : GoodIn wsL_law (wsV RL 57 RX1 yX1_passDays wsX1_passDays) := goodIn_app (goodIn_of _ (by decide +kernel)) ggL_law_X1_passDays
set_option maxRecDepth 20000 in
theorem ggL_law_X2_pass : GoodIn wsL_law wsX2_pass := goodIn_r _ [175, 53, 176, 171, 177, 6, 7, 8, 178, 179, 180, 46, 181, 50, 351, 352, 353, 354, 355, 356] (by decide +kernel) (by decide +kernel)
set_option maxRecDepth 20000 in
theorem gL_law_X2_pass : GoodIn wsL_law (wsV RL 168 RX2 yX2_pass wsX2_pass) := goodIn_app (goodIn_of _ (by decide +kernel)) ggL_law_X2_pass
set_option maxRecDepth 20000 in
theorem ggL_law_X2_isSame : GoodIn wsL_law wsX2_isSame := goodIn_ca (goodIn_r _ [302, 52, 53, 176, 303, 50, 171, 177, 6, 7, 8, 304, 183, 184, 2, 185, 32, 305, 187, 188, 189, 30, 306, 291, 292, 293, 307, 191, 192, 193, 33, 308, 274, 275, 276, 309, 295, 296, 297, 132, 310, 311, 312, 46, 313, 4, 314, 315, 316, 317, 318, 319, 320, 321, 24, 218, 216, 217, 322, 228, 229, 230, 22, 80, 81, 82, 83, 84, 85, 86, 87, 88, 323, 232, 233, 234, 23, 324, 195, 196, 197, 25, 198, 199, 200, 201, 202, 203, 204, 205, 206, 325, 208, 209, 210, 326, 254, 255, 256, 116, 117, 118, 119, 327, 278, 279, 280, 328, 270, 271, 272, 164, 29, 165, 166, 162, 39, 178, 179, 180, 181, 329, 220, 221, 222, 26, 330, 224, 225, 226, 331, 282, 283, 284, 285, 332, 287, 288, 289, 333, 334, 335, 336, 351, 352, 353, 354, 355, 356, 337, 338, 339, 340, 341, 342, 343, 344, 345, 346, 347, 348, 349, 350] (by decide +kernel) (by decide +kernel)) (goodIn_sub (fun _ h => List.mem_append_right _ h) (by decide +kernel))
set_option maxRecDepth 20000 in
theorem gL_law_X2_isSame : GoodIn wsL_law (wsV RL 171 RX2 yX2_isSame wsX2_isSame) := goodIn_app (goodIn_of _ (by decide +kernel)) ggL_law_X2_isSame
