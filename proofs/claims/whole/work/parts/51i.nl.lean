set_option maxRecDepth 20000 in
theorem ggL_law_X10_move : GoodIn wsL_law wsX10_move := goodIn_r _ [462, 55, 53, 118, 56, 54, 65, 66, 51, 112, 113, 5, 114, 115, 116, 117, 329, 330, 331, 332, 333, 334, 335, 336, 337, 338, 342, 343, 344, 345, 52, 463, 464, 465, 466, 442, 350, 351, 352, 353, 358, 359, 360, 361, 354, 355, 356, 357, 362, 363, 364, 365, 471, 472, 473, 474, 475, 476, 477, 478, 479, 480, 481] (by decide +kernel) (by decide +kernel)
set_option maxRecDepth 20000 in
theorem gL_law_X10_move : GoodIn wsL_law (wsV RL 83 RX10 yX10_move wsX10_move) := goodIn_app (goodIn_of _ (by decide +kernel)) ggL_law_X10_move
