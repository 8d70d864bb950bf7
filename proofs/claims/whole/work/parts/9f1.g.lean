set_option maxRecDepth 20000 in
theorem ggL_law_X5_code : GoodIn wsL_law wsX5_code := goodIn_r _ [313, 112, 295, 83, 87, 571, 572, 573, 574, 575, 576, 577, 578, 579, 580, 581, 582, 583, 584, 585, 586, 587, 588, 589, 590, 591, 592, 593, 594, 595, 596, 597, 598, 599, 600, 601, 602, 603] rfl (by decide +kernel)
set_option maxRecDepth 20000 in
theorem gL_law_X5_code : GoodIn wsL_law (wsV RL 37 RX5 yX5_code wsX5_code) := goodIn_app (goodIn_of _ (by decide +kernel)) ggL_law_X5_code
set_option maxRecDepth 20000 in
theorem ggL_law_X4_run : GoodIn wsL_law wsX4_run := goodIn_r _ [317, 24, 29, 20, 28, 318, 235, 236, 2, 237, 238, 239, 240, 23, 241, 60, 242, 243, 140, 141, 19, 142, 122, 244, 195, 196, 197, 47, 139, 245, 246, 247, 248, 249, 144, 145, 146, 43, 250, 148, 149, 150, 44, 251, 152, 153, 154, 45, 252, 162, 163, 164, 49, 253, 166, 167, 168, 50, 254, 255, 256, 257, 56, 57, 58, 258, 259, 260, 261, 262, 263, 264, 265, 266, 187, 188, 189, 46, 267, 136, 137, 138, 319, 320, 321, 322, 323, 324, 325, 326, 327, 27, 328, 329, 330, 331, 332, 333, 334, 335, 302, 303, 304, 336, 306, 307, 308, 309, 337, 338, 339, 340, 59, 341, 342, 343, 344, 67, 66, 345, 346, 347, 15, 348, 349, 350, 36, 37, 38, 185, 132, 133, 134, 104, 105, 106, 107, 351, 352, 353, 354, 355, 356, 357, 358, 359, 360, 361, 362, 363, 364, 365, 366, 367, 368, 369, 370, 371, 372, 373, 374, 375, 376, 377, 378, 379, 380, 381, 382, 383, 384, 385, 386, 387, 388, 389, 390, 391, 392, 393, 394, 395, 396, 397, 398, 399, 400, 401, 402, 403, 404, 405, 406, 169, 170, 407, 408, 409, 410, 411, 412, 413, 414, 415, 416, 417, 418, 419, 420, 421, 422, 423, 424, 125, 425, 161, 165, 143, 147, 151, 426, 427, 428, 429, 564, 565, 566, 567, 568, 569, 570, 617, 618, 619, 620, 621, 622, 623, 608, 609, 610, 611, 612, 613, 614, 615, 616, 624, 625, 626, 627, 604, 605, 606, 607] rfl (by decide +kernel)
set_option maxRecDepth 20000 in
theorem gL_law_X4_run : GoodIn wsL_law (wsV RL 38 RX4 yX4_run wsX4_run) := goodIn_app (goodIn_of _ (by decide +kernel)) ggL_law_X4_run
set_option maxRecDepth 20000 in
theorem ggL_law_X5_run : GoodIn wsL_law wsX5_run := goodIn_r _ [433, 112, 434, 435, 219, 220, 221, 5, 222, 206, 272, 273, 274, 275, 276, 277, 278, 89, 93, 77, 90, 91, 92, 88, 279, 280, 281, 282, 283, 284, 285, 286, 81, 82, 78, 79, 80, 287, 288, 289, 290, 85, 86, 291, 292, 293, 294, 295, 83, 87, 84, 436, 437, 438, 439, 94, 76, 95, 440, 441, 442, 443, 74, 73, 230, 75, 444, 445, 446, 447, 72, 448, 449, 450, 451, 452, 453, 454, 455, 456, 457, 458, 459, 460, 461, 462, 463, 464, 465, 466, 467, 468, 469, 470, 471, 472, 231, 232, 233, 571, 572, 573, 574, 575, 576, 577, 578, 579, 580, 581, 582, 583, 584, 585, 586, 587, 588, 589, 590, 591, 592, 593, 594, 595, 596, 597, 598, 599, 600, 601, 602, 603] rfl (by decide +kernel)
set_option maxRecDepth 20000 in
theorem gL_law_X5_run : GoodIn wsL_law (wsV RL 42 RX5 yX5_run wsX5_run) := goodIn_app (goodIn_of _ (by decide +kernel)) ggL_law_X5_run
set_option maxRecDepth 20000 in
theorem ggL_law_L_at : GoodIn wsL_law wsL_at := goodIn_r _ [476, 477, 478, 479, 2, 480, 481, 482, 483, 29, 28, 484, 485, 27, 486, 487, 488, 489, 490, 66, 491, 628, 629, 630, 631, 632, 633, 564, 565, 566, 567, 568, 569, 570, 624, 625, 626, 627] rfl (by decide +kernel)
set_option maxRecDepth 20000 in
theorem gL_law_L_at : GoodIn wsL_law (va_wsS RL 43 yL_at wsL_at) := goodIn_app (goodIn_of _ (by decide +kernel)) ggL_law_L_at
set_option maxRecDepth 20000 in
theorem ggL_law_X5_at : GoodIn wsL_law wsX5_at := goodIn_r _ [495, 112, 72, 571, 572, 573, 574, 575, 576, 577, 578, 579, 580, 581, 582, 583, 584, 585, 586, 587, 588, 589, 590, 591, 592, 593, 594, 595, 596, 597, 598, 599, 600, 601, 602, 603] rfl (by decide +kernel)
set_option maxRecDepth 20000 in
theorem gL_law_X5_at : GoodIn wsL_law (wsV RL 48 RX5 yX5_at wsX5_at) := goodIn_app (goodIn_of _ (by decide +kernel)) ggL_law_X5_at
set_option maxRecDepth 20000 in
theorem ggL_law_X5_thrown : GoodIn wsL_law wsX5_thrown := goodIn_r _ [499, 112, 571, 572, 573, 574, 575, 576, 577, 578, 579, 580, 581, 582, 583, 584, 585, 586, 587, 588, 589, 590, 591, 592, 593, 594, 595, 596, 597, 598, 599, 600, 601, 602, 603] rfl (by decide +kernel)
set_option maxRecDepth 20000 in
theorem gL_law_X5_thrown : GoodIn wsL_law (wsV RL 49 RX5 yX5_thrown wsX5_thrown) := goodIn_app (goodIn_of _ (by decide +kernel)) ggL_law_X5_thrown
set_option maxRecDepth 20000 in
theorem ggL_law_X4_put : GoodIn wsL_law wsX4_put := goodIn_r _ [503, 28, 29, 484, 485, 27, 486, 504, 505, 506, 507, 66, 491, 564, 565, 566, 567, 568, 569, 570, 624, 625, 626, 627] rfl (by decide +kernel)
set_option maxRecDepth 20000 in
theorem gL_law_X4_put : GoodIn wsL_law (wsV RL 53 RX4 yX4_put wsX4_put) := goodIn_app (goodIn_of _ (by decide +kernel)) ggL_law_X4_put
set_option maxRecDepth 20000 in
theorem ggL_law_X5_put : GoodIn wsL_law wsX5_put := goodIn_r _ [511, 112, 72, 571, 572, 573, 574, 575, 576, 577, 578, 579, 580, 581, 582, 583, 584, 585, 586, 587, 588, 589, 590, 591, 592, 593, 594, 595, 596, 597, 598, 599, 600, 601, 602, 603] rfl (by decide +kernel)
set_option maxRecDepth 20000 in
theorem gL_law_X5_put : GoodIn wsL_law (wsV RL 57 RX5 yX5_put wsX5_put) := goodIn_app (goodIn_of _ (by decide +kernel)) ggL_law_X5_put
set_option maxRecDepth 20000 in
theorem ggL_law_X4_fast : GoodIn wsL_law wsX4_fast := goodIn_r _ [515, 24, 300, 263, 264, 23, 265, 242, 516, 517, 518, 519, 58, 262, 564, 565, 566, 567, 568, 569, 570, 617, 618, 619, 620, 621, 622, 623] rfl (by decide +kernel)
set_option maxRecDepth 20000 in
theorem gL_law_X4_fast : GoodIn wsL_law (wsV RL 58 RX4 yX4_fast wsX4_fast) := goodIn_app (goodIn_of _ (by decide +kernel)) ggL_law_X4_fast
