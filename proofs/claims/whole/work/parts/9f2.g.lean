set_option maxRecDepth 20000 in
theorem ggL_law_X5_fast : GoodIn wsL_law wsX5_fast := goodIn_r _ [523, 112, 295, 83, 84, 571, 572, 573, 574, 575, 576, 577, 578, 579, 580, 581, 582, 583, 584, 585, 586, 587, 588, 589, 590, 591, 592, 593, 594, 595, 596, 597, 598, 599, 600, 601, 602, 603] rfl (by decide +kernel)
set_option maxRecDepth 20000 in
theorem gL_law_X5_fast : GoodIn wsL_law (wsV RL 62 RX5 yX5_fast wsX5_fast) := goodIn_app (goodIn_of _ (by decide +kernel)) ggL_law_X5_fast
set_option maxRecDepth 20000 in
theorem ggL_law_X4_point : GoodIn wsL_law wsX4_point := goodIn_r _ [527, 24, 528, 529, 530, 23, 531, 242, 56, 564, 565, 566, 567, 568, 569, 570, 617, 618, 619, 620, 621, 622, 623] rfl (by decide +kernel)
set_option maxRecDepth 20000 in
theorem gL_law_X4_point : GoodIn wsL_law (wsV RL 63 RX4 yX4_point wsX4_point) := goodIn_app (goodIn_of _ (by decide +kernel)) ggL_law_X4_point
set_option maxRecDepth 20000 in
theorem ggL_law_X5_point : GoodIn wsL_law wsX5_point := goodIn_r _ [535, 112, 295, 83, 571, 572, 573, 574, 575, 576, 577, 578, 579, 580, 581, 582, 583, 584, 585, 586, 587, 588, 589, 590, 591, 592, 593, 594, 595, 596, 597, 598, 599, 600, 601, 602, 603] rfl (by decide +kernel)
set_option maxRecDepth 20000 in
theorem gL_law_X5_point : GoodIn wsL_law (wsV RL 66 RX5 yX5_point wsX5_point) := goodIn_app (goodIn_of _ (by decide +kernel)) ggL_law_X5_point
set_option maxRecDepth 20000 in
theorem ggL_law_X4_raised : GoodIn wsL_law wsX4_raised := goodIn_r _ [539, 29, 28, 564, 565, 566, 567, 568, 569, 570, 624, 625, 626, 627] rfl (by decide +kernel)
set_option maxRecDepth 20000 in
theorem gL_law_X4_raised : GoodIn wsL_law (wsV RL 67 RX4 yX4_raised wsX4_raised) := goodIn_app (goodIn_of _ (by decide +kernel)) ggL_law_X4_raised
set_option maxRecDepth 20000 in
theorem ggL_law_X5_raised : GoodIn wsL_law wsX5_raised := goodIn_r _ [543, 112, 434, 435, 571, 572, 573, 574, 575, 576, 577, 578, 579, 580, 581, 582, 583, 584, 585, 586, 587, 588, 589, 590, 591, 592, 593, 594, 595, 596, 597, 598, 599, 600, 601, 602, 603] rfl (by decide +kernel)
set_option maxRecDepth 20000 in
theorem gL_law_X5_raised : GoodIn wsL_law (wsV RL 71 RX5 yX5_raised wsX5_raised) := goodIn_app (goodIn_of _ (by decide +kernel)) ggL_law_X5_raised
set_option maxRecDepth 20000 in
theorem ggL_law_X4_same : GoodIn wsL_law wsX4_same := goodIn_r _ [547, 30, 28, 31, 20, 24, 318, 235, 236, 2, 237, 238, 239, 240, 23, 241, 60, 242, 243, 140, 141, 19, 142, 122, 244, 195, 196, 197, 47, 139, 245, 246, 247, 248, 249, 144, 145, 146, 43, 250, 148, 149, 150, 44, 251, 152, 153, 154, 45, 252, 162, 163, 164, 49, 253, 166, 167, 168, 50, 254, 255, 256, 257, 56, 57, 58, 258, 259, 260, 261, 262, 263, 264, 265, 266, 187, 188, 189, 46, 267, 136, 137, 138, 548, 549, 550, 27, 551, 66, 552, 553, 554, 555, 413, 414, 415, 416, 417, 326, 327, 328, 329, 330, 418, 419, 420, 421, 422, 423, 424, 125, 425, 161, 165, 143, 147, 151, 426, 342, 343, 344, 67, 345, 346, 347, 15, 348, 349, 350, 36, 37, 38, 185, 132, 133, 134, 104, 105, 106, 107, 351, 352, 353, 354, 355, 356, 357, 358, 359, 360, 361, 362, 363, 364, 365, 366, 367, 427, 373, 374, 375, 376, 377, 378, 379, 380, 381, 382, 383, 384, 385, 386, 387, 388, 389, 390, 391, 392, 393, 394, 395, 396, 397, 428, 429, 404, 405, 406, 169, 170, 319, 320, 321, 322, 323, 324, 325, 331, 332, 333, 334, 335, 302, 303, 304, 336, 306, 307, 308, 309, 337, 338, 339, 340, 59, 341, 368, 369, 370, 371, 372, 398, 399, 400, 401, 402, 403, 556, 557, 558, 559, 564, 565, 566, 567, 568, 569, 570, 617, 618, 619, 620, 621, 622, 623, 608, 609, 610, 611, 612, 613, 614, 615, 616, 624, 625, 626, 627, 604, 605, 606, 607] rfl (by decide +kernel)
set_option maxRecDepth 20000 in
theorem gL_law_X4_same : GoodIn wsL_law (wsV RL 72 RX4 yX4_same wsX4_same) := goodIn_app (goodIn_of _ (by decide +kernel)) ggL_law_X4_same
set_option maxRecDepth 20000 in
theorem ggL_law_X5_same : GoodIn wsL_law wsX5_same := goodIn_r _ [563, 112, 219, 220, 221, 5, 222, 206, 272, 273, 274, 275, 276, 277, 278, 89, 93, 77, 90, 91, 92, 88, 279, 280, 281, 282, 283, 284, 285, 286, 81, 82, 78, 79, 80, 287, 288, 289, 290, 85, 86, 291, 292, 293, 294, 295, 83, 87, 84, 571, 572, 573, 574, 575, 576, 577, 578, 579, 580, 581, 582, 583, 584, 585, 586, 587, 588, 589, 590, 591, 592, 593, 594, 595, 596, 597, 598, 599, 600, 601, 602, 603] rfl (by decide +kernel)
set_option maxRecDepth 20000 in
theorem gL_law_X5_same : GoodIn wsL_law (wsV RL 75 RX5 yX5_same wsX5_same) := goodIn_app (goodIn_of _ (by decide +kernel)) ggL_law_X5_same
