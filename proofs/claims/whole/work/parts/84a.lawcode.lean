set_option maxRecDepth 20000 in
theorem ggL_law_X4_init : GoodIn wsL_law wsX4_init := goodIn_r _ [10, 11, 12, 13, 14, 15, 16, 17, 18, 19, 20, 21, 22, 23, 24, 25, 26, 27, 28, 29, 30, 31, 32, 33, 6, 34, 35, 36, 37, 38, 39, 40, 41, 42, 43, 44, 45, 46, 47, 48, 49, 50, 51, 52, 53, 54, 55, 56, 637, 638, 639, 640, 641, 609, 610, 611, 612, 613, 614, 615, 642, 643, 644, 645, 646, 647] rfl (by decide +kernel)
set_option maxRecDepth 20000 in
theorem gL_law_X4_init : GoodIn wsL_law (wsX4_init) := ggL_law_X4_init
set_option maxRecDepth 20000 in
theorem ggL_law_X5_init : GoodIn wsL_law wsX5_init := goodIn_r _ [59, 60, 12, 13, 35, 61, 6, 62, 63, 64, 65, 66, 67, 68, 69, 70, 616, 617, 618, 619, 620, 621, 622, 623, 624, 625, 626, 627, 628, 629, 630, 631, 632, 633, 634, 635, 636] rfl (by decide +kernel)
set_option maxRecDepth 20000 in
theorem gL_law_X5_init : GoodIn wsL_law (wsX5_init) := ggL_law_X5_init
set_option maxRecDepth 20000 in
theorem ggL_law_X4_write : GoodIn wsL_law wsX4_write := goodIn_r _ [74, 27, 75, 76, 77, 2, 78, 79, 80, 81, 26, 82, 56, 55, 609, 610, 611, 612, 613, 614, 615, 646, 647] rfl (by decide +kernel)
set_option maxRecDepth 20000 in
theorem gL_law_X4_write : GoodIn wsL_law (wsV RL 29 RX4 yX4_write wsX4_write) := goodIn_app (goodIn_of _ (by decide +kernel)) ggL_law_X4_write
set_option maxRecDepth 20000 in
theorem ggL_law_X5_write : GoodIn wsL_law wsX5_write := goodIn_r _ [86, 87, 88, 61, 616, 617, 618, 619, 620, 621, 622, 623, 624, 625, 626, 627, 628, 629, 630, 631, 632, 633, 634, 635, 636] rfl (by decide +kernel)
set_option maxRecDepth 20000 in
theorem gL_law_X5_write : GoodIn wsL_law (wsV RL 33 RX5 yX5_write wsX5_write) := goodIn_app (goodIn_of _ (by decide +kernel)) ggL_law_X5_write
set_option maxRecDepth 20000 in
theorem ggL_law_X4_erase : GoodIn wsL_law wsX4_erase := goodIn_r _ [92, 27, 75, 24, 25, 26, 50, 51, 52, 53, 12, 13, 54, 55, 56, 609, 610, 611, 612, 613, 614, 615, 646, 647] rfl (by decide +kernel)
set_option maxRecDepth 20000 in
theorem gL_law_X4_erase : GoodIn wsL_law (wsV RL 34 RX4 yX4_erase wsX4_erase) := goodIn_app (goodIn_of _ (by decide +kernel)) ggL_law_X4_erase
set_option maxRecDepth 20000 in
theorem ggL_law_X5_erase : GoodIn wsL_law wsX5_erase := goodIn_r _ [96, 87, 88, 616, 617, 618, 619, 620, 621, 622, 623, 624, 625, 626, 627, 628, 629, 630, 631, 632, 633, 634, 635, 636] rfl (by decide +kernel)
set_option maxRecDepth 20000 in
theorem gL_law_X5_erase : GoodIn wsL_law (wsV RL 38 RX5 yX5_erase wsX5_erase) := goodIn_app (goodIn_of _ (by decide +kernel)) ggL_law_X5_erase
set_option maxRecDepth 20000 in
theorem ggL_law_L_run : GoodIn wsL_law wsL_run := goodIn_ca (goodIn_ca (goodIn_ca (goodIn_ca (goodIn_ca (goodIn_ca (goodIn_ca (goodIn_ca (goodIn_r _ [100, 101, 102, 103, 104, 105, 106, 107, 108, 2, 109, 110, 111, 112, 113, 19, 29, 23, 27, 75, 114, 115, 116, 117, 118, 16, 119, 40, 120, 121, 122, 22, 123, 49, 124, 125, 126, 127, 128, 46, 47, 48, 129, 130, 131, 132, 133, 134, 135, 136, 137, 138, 139, 140, 141, 142, 143, 26, 144, 56, 55, 145, 146, 147, 148, 149, 150, 151, 152, 153, 154, 155, 156, 157, 158, 159, 160, 161, 162, 163, 164, 165, 166, 167, 168, 169, 170, 171, 172, 17, 173, 174, 175, 176, 177, 178, 179, 180, 181, 182, 183, 184, 185, 186, 34, 187, 188, 189, 190, 36, 38, 39, 191, 192, 193, 194, 195, 196, 197, 198, 199, 200, 201, 202, 203, 204, 205, 206, 207, 208, 209, 210, 211, 212, 213, 214, 215, 28, 216, 217, 218, 219, 220, 221, 222, 223, 224, 225, 226, 227, 228, 229, 230, 231, 232, 233, 234, 235, 236, 237, 238, 239, 240, 241, 242, 243, 244, 245, 246, 247, 248, 249, 250, 251, 252, 253, 254, 255, 256, 257, 258, 259, 260, 261, 262, 263, 264, 265, 266, 267, 268, 269, 270, 271, 272, 273, 274, 275, 276, 277, 278, 279, 280, 281, 282, 283, 284, 285, 286, 287, 288, 289, 290, 291, 292, 293, 294, 295, 296, 297, 298, 299, 300, 301, 302, 303, 304, 305, 306, 307, 308, 309, 310, 311, 312, 313, 314, 315, 316, 317, 318, 18, 319, 320, 321, 322, 323, 324, 325, 326, 327, 328, 329, 330, 331, 332, 333, 334, 335, 336, 337, 338, 339, 340, 341, 342, 343, 344, 345, 346, 347, 348, 349, 350, 351, 352, 353, 354, 355, 356, 357, 358, 359, 360, 361, 362, 363, 364, 365, 609, 610, 611, 612, 613, 614, 615, 646, 647, 642, 643, 644, 645, 637, 638, 639, 640, 641] rfl (by decide +kernel)) (goodIn_sub (fun _ h => List.mem_append_left _ (List.mem_append_left _ (List.mem_append_left _ (List.mem_append_left _ (List.mem_append_left _ (List.mem_append_left _ (List.mem_append_left _ (List.mem_append_right _ h)))))))) (by decide +kernel))) (goodIn_sub (fun _ h => List.mem_append_left _ (List.mem_append_left _ (List.mem_append_left _ (List.mem_append_left _ (List.mem_append_left _ (List.mem_append_left _ (List.mem_append_right _ h))))))) (by decide +kernel))) (goodIn_sub (fun _ h => List.mem_append_left _ (List.mem_append_left _ (List.mem_append_left _ (List.mem_append_left _ (List.mem_append_left _ (List.mem_append_right _ h)))))) (by decide +kernel))) (goodIn_sub (fun _ h => List.mem_append_left _ (List.mem_append_left _ (List.mem_append_left _ (List.mem_append_left _ (List.mem_append_right _ h))))) (by decide +kernel))) (goodIn_sub (fun _ h => List.mem_append_left _ (List.mem_append_left _ (List.mem_append_left _ (List.mem_append_right _ h)))) (by decide +kernel))) (goodIn_sub (fun _ h => List.mem_append_left _ (List.mem_append_left _ (List.mem_append_right _ h))) (by decide +kernel))) (goodIn_sub (fun _ h => List.mem_append_left _ (List.mem_append_right _ h)) (by decide +kernel))) (goodIn_sub (fun _ h => List.mem_append_right _ h) (by decide +kernel))
set_option maxRecDepth 20000 in
theorem gL_law_L_run : GoodIn wsL_law (va_wsS RL 39 yL_run wsL_run) := goodIn_app (goodIn_of _ (by decide +kernel)) ggL_law_L_run
set_option maxRecDepth 20000 in
theorem ggL_law_X5_run : GoodIn wsL_law wsX5_run := goodIn_r _ [369, 87, 370, 371, 372, 373, 374, 375, 67, 88, 68, 66, 61, 376, 377, 378, 5, 379, 380, 381, 382, 383, 384, 385, 386, 387, 388, 389, 390, 391, 392, 393, 394, 395, 396, 397, 398, 399, 400, 401, 402, 403, 404, 405, 406, 407, 408, 409, 410, 411, 412, 413, 62, 63, 414, 415, 416, 417, 64, 418, 419, 420, 421, 422, 423, 424, 425, 426, 427, 65, 428, 429, 430, 431, 432, 433, 434, 435, 436, 437, 438, 439, 440, 441, 442, 443, 444, 445, 446, 447, 448, 449, 450, 451, 452, 453, 454, 455, 456, 457, 458, 459, 460, 461, 462, 463, 464, 465, 466, 467, 468, 469, 470, 471, 472, 473, 474, 475, 476, 477, 478, 479, 480, 481, 482, 483, 484, 485, 486, 487, 488, 489, 490, 491, 492, 493, 494, 495, 496, 497, 498, 499, 500, 501, 502, 503, 504, 505, 506, 507, 508, 509, 510, 511, 512, 513, 514, 515, 516, 517, 518, 519, 520, 521, 522, 523, 69, 70, 616, 617, 618, 619, 620, 621, 622, 623, 624, 625, 626, 627, 628, 629, 630, 631, 632, 633, 634, 635, 636] rfl (by decide +kernel)
set_option maxRecDepth 20000 in
theorem gL_law_X5_run : GoodIn wsL_law (wsV RL 44 RX5 yX5_run wsX5_run) := goodIn_app (goodIn_of _ (by decide +kernel)) ggL_law_X5_run
set_option maxRecDepth 20000 in
theorem ggL_law_X5_thrown : GoodIn wsL_law wsX5_thrown := goodIn_r _ [527, 87, 616, 617, 618, 619, 620, 621, 622, 623, 624, 625, 626, 627, 628, 629, 630, 631, 632, 633, 634, 635, 636] rfl (by decide +kernel)
set_option maxRecDepth 20000 in
theorem gL_law_X5_thrown : GoodIn wsL_law (wsV RL 45 RX5 yX5_thrown wsX5_thrown) := goodIn_app (goodIn_of _ (by decide +kernel)) ggL_law_X5_thrown
set_option maxRecDepth 20000 in
theorem ggL_law_X4_cost : GoodIn wsL_law wsX4_cost := goodIn_r _ [531, 29, 609, 610, 611, 612, 613, 614, 615] rfl (by decide +kernel)
set_option maxRecDepth 20000 in
theorem gL_law_X4_cost : GoodIn wsL_law (wsV RL 48 RX4 yX4_cost wsX4_cost) := goodIn_app (goodIn_of _ (by decide +kernel)) ggL_law_X4_cost
set_option maxRecDepth 20000 in
theorem ggL_law_X5_cost : GoodIn wsL_law wsX5_cost := goodIn_r _ [535, 87, 372, 616, 617, 618, 619, 620, 621, 622, 623, 624, 625, 626, 627, 628, 629, 630, 631, 632, 633, 634, 635, 636] rfl (by decide +kernel)
set_option maxRecDepth 20000 in
theorem gL_law_X5_cost : GoodIn wsL_law (wsV RL 51 RX5 yX5_cost wsX5_cost) := goodIn_app (goodIn_of _ (by decide +kernel)) ggL_law_X5_cost
set_option maxRecDepth 20000 in
theorem ggL_law_X4_prints : GoodIn wsL_law wsX4_prints := goodIn_r _ [539, 19, 231, 609, 610, 611, 612, 613, 614, 615, 637, 638, 639, 640, 641] rfl (by decide +kernel)
set_option maxRecDepth 20000 in
theorem gL_law_X4_prints : GoodIn wsL_law (wsV RL 52 RX4 yX4_prints wsX4_prints) := goodIn_app (goodIn_of _ (by decide +kernel)) ggL_law_X4_prints
set_option maxRecDepth 20000 in
theorem ggL_law_X5_prints : GoodIn wsL_law wsX5_prints := goodIn_r _ [543, 87, 371, 616, 617, 618, 619, 620, 621, 622, 623, 624, 625, 626, 627, 628, 629, 630, 631, 632, 633, 634, 635, 636] rfl (by decide +kernel)
set_option maxRecDepth 20000 in
theorem gL_law_X5_prints : GoodIn wsL_law (wsV RL 55 RX5 yX5_prints wsX5_prints) := goodIn_app (goodIn_of _ (by decide +kernel)) ggL_law_X5_prints
set_option maxRecDepth 20000 in
theorem ggL_law_X4_printed : GoodIn wsL_law wsX4_printed := goodIn_r _ [547, 19, 240, 241, 242, 16, 243, 34, 191, 192, 193, 194, 40, 609, 610, 611, 612, 613, 614, 615, 637, 638, 639, 640, 641] rfl (by decide +kernel)
set_option maxRecDepth 20000 in
theorem gL_law_X4_printed : GoodIn wsL_law (wsV RL 56 RX4 yX4_printed wsX4_printed) := goodIn_app (goodIn_of _ (by decide +kernel)) ggL_law_X4_printed
set_option maxRecDepth 20000 in
theorem ggL_law_X5_printed : GoodIn wsL_law wsX5_printed := goodIn_r _ [551, 87, 371, 69, 377, 378, 5, 379, 616, 617, 618, 619, 620, 621, 622, 623, 624, 625, 626, 627, 628, 629, 630, 631, 632, 633, 634, 635, 636] rfl (by decide +kernel)
set_option maxRecDepth 20000 in
theorem gL_law_X5_printed : GoodIn wsL_law (wsV RL 60 RX5 yX5_printed wsX5_printed) := goodIn_app (goodIn_of _ (by decide +kernel)) ggL_law_X5_printed
set_option maxRecDepth 20000 in
theorem ggL_law_X4_places : GoodIn wsL_law wsX4_places := goodIn_r _ [555, 19, 244, 245, 246, 16, 247, 36, 191, 192, 193, 194, 40, 34, 609, 610, 611, 612, 613, 614, 615, 637, 638, 639, 640, 641] rfl (by decide +kernel)
set_option maxRecDepth 20000 in
theorem gL_law_X4_places : GoodIn wsL_law (wsV RL 61 RX4 yX4_places wsX4_places) := goodIn_app (goodIn_of _ (by decide +kernel)) ggL_law_X4_places
set_option maxRecDepth 20000 in
theorem ggL_law_X5_places : GoodIn wsL_law wsX5_places := goodIn_r _ [559, 87, 371, 70, 377, 378, 5, 379, 616, 617, 618, 619, 620, 621, 622, 623, 624, 625, 626, 627, 628, 629, 630, 631, 632, 633, 634, 635, 636] rfl (by decide +kernel)
set_option maxRecDepth 20000 in
theorem gL_law_X5_places : GoodIn wsL_law (wsV RL 64 RX5 yX5_places wsX5_places) := goodIn_app (goodIn_of _ (by decide +kernel)) ggL_law_X5_places
set_option maxRecDepth 20000 in
theorem ggL_law_X4_depth : GoodIn wsL_law wsX4_depth := goodIn_r _ [563, 17, 231, 609, 610, 611, 612, 613, 614, 615, 637, 638, 639, 640, 641] rfl (by decide +kernel)
set_option maxRecDepth 20000 in
theorem gL_law_X4_depth : GoodIn wsL_law (wsV RL 65 RX4 yX4_depth wsX4_depth) := goodIn_app (goodIn_of _ (by decide +kernel)) ggL_law_X4_depth
set_option maxRecDepth 20000 in
theorem ggL_law_X5_depth : GoodIn wsL_law wsX5_depth := goodIn_r _ [567, 87, 409, 616, 617, 618, 619, 620, 621, 622, 623, 624, 625, 626, 627, 628, 629, 630, 631, 632, 633, 634, 635, 636] rfl (by decide +kernel)
set_option maxRecDepth 20000 in
theorem gL_law_X5_depth : GoodIn wsL_law (wsV RL 68 RX5 yX5_depth wsX5_depth) := goodIn_app (goodIn_of _ (by decide +kernel)) ggL_law_X5_depth
set_option maxRecDepth 20000 in
theorem ggL_law_X4_item : GoodIn wsL_law wsX4_item := goodIn_r _ [571, 17, 232, 233, 234, 16, 235, 40, 240, 241, 242, 243, 34, 191, 192, 193, 194, 609, 610, 611, 612, 613, 614, 615, 637, 638, 639, 640, 641] rfl (by decide +kernel)
set_option maxRecDepth 20000 in
theorem gL_law_X4_item : GoodIn wsL_law (wsV RL 69 RX4 yX4_item wsX4_item) := goodIn_app (goodIn_of _ (by decide +kernel)) ggL_law_X4_item
set_option maxRecDepth 20000 in
theorem ggL_law_X5_item : GoodIn wsL_law wsX5_item := goodIn_r _ [575, 87, 409, 62, 377, 378, 5, 379, 616, 617, 618, 619, 620, 621, 622, 623, 624, 625, 626, 627, 628, 629, 630, 631, 632, 633, 634, 635, 636] rfl (by decide +kernel)
set_option maxRecDepth 20000 in
theorem gL_law_X5_item : GoodIn wsL_law (wsV RL 72 RX5 yX5_item wsX5_item) := goodIn_app (goodIn_of _ (by decide +kernel)) ggL_law_X5_item
set_option maxRecDepth 20000 in
theorem ggL_law_X4_scale : GoodIn wsL_law wsX4_scale := goodIn_r _ [579, 17, 232, 233, 234, 16, 235, 40, 244, 245, 246, 247, 36, 191, 192, 193, 194, 34, 609, 610, 611, 612, 613, 614, 615, 637, 638, 639, 640, 641] rfl (by decide +kernel)
set_option maxRecDepth 20000 in
theorem gL_law_X4_scale : GoodIn wsL_law (wsV RL 73 RX4 yX4_scale wsX4_scale) := goodIn_app (goodIn_of _ (by decide +kernel)) ggL_law_X4_scale
set_option maxRecDepth 20000 in
theorem ggL_law_X5_scale : GoodIn wsL_law wsX5_scale := goodIn_r _ [583, 87, 409, 63, 377, 378, 5, 379, 616, 617, 618, 619, 620, 621, 622, 623, 624, 625, 626, 627, 628, 629, 630, 631, 632, 633, 634, 635, 636] rfl (by decide +kernel)
set_option maxRecDepth 20000 in
theorem gL_law_X5_scale : GoodIn wsL_law (wsV RL 76 RX5 yX5_scale wsX5_scale) := goodIn_app (goodIn_of _ (by decide +kernel)) ggL_law_X5_scale
set_option maxRecDepth 20000 in
theorem ggL_law_X4_held : GoodIn wsL_law wsX4_held := goodIn_r _ [587, 231, 315, 316, 317, 2, 318, 18, 637, 638, 639, 640, 641, 609, 610, 611, 612, 613, 614, 615] rfl (by decide +kernel)
set_option maxRecDepth 20000 in
theorem gL_law_X4_held : GoodIn wsL_law (wsV RL 77 RX4 yX4_held wsX4_held) := goodIn_app (goodIn_of _ (by decide +kernel)) ggL_law_X4_held
set_option maxRecDepth 20000 in
theorem ggL_law_X5_held : GoodIn wsL_law wsX5_held := goodIn_r _ [591, 87, 592, 65, 377, 378, 5, 379, 616, 617, 618, 619, 620, 621, 622, 623, 624, 625, 626, 627, 628, 629, 630, 631, 632, 633, 634, 635, 636] rfl (by decide +kernel)
set_option maxRecDepth 20000 in
theorem gL_law_X5_held : GoodIn wsL_law (wsV RL 80 RX5 yX5_held wsX5_held) := goodIn_app (goodIn_of _ (by decide +kernel)) ggL_law_X5_held
set_option maxRecDepth 20000 in
theorem ggL_law_X4_precision : GoodIn wsL_law wsX4_precision := goodIn_r _ [596, 28, 609, 610, 611, 612, 613, 614, 615] rfl (by decide +kernel)
set_option maxRecDepth 20000 in
theorem gL_law_X4_precision : GoodIn wsL_law (wsV RL 81 RX4 yX4_precision wsX4_precision) := goodIn_app (goodIn_of _ (by decide +kernel)) ggL_law_X4_precision
set_option maxRecDepth 20000 in
theorem ggL_law_X5_precision : GoodIn wsL_law wsX5_precision := goodIn_r _ [600, 87, 484, 616, 617, 618, 619, 620, 621, 622, 623, 624, 625, 626, 627, 628, 629, 630, 631, 632, 633, 634, 635, 636] rfl (by decide +kernel)
set_option maxRecDepth 20000 in
theorem gL_law_X5_precision : GoodIn wsL_law (wsV RL 84 RX5 yX5_precision wsX5_precision) := goodIn_app (goodIn_of _ (by decide +kernel)) ggL_law_X5_precision
set_option maxRecDepth 20000 in
theorem ggL_law_X4_reset : GoodIn wsL_law wsX4_reset := goodIn_r _ [604, 17, 19, 28, 116, 117, 118, 16, 119, 40, 315, 316, 317, 2, 318, 18, 609, 610, 611, 612, 613, 614, 615, 637, 638, 639, 640, 641] rfl (by decide +kernel)
set_option maxRecDepth 20000 in
theorem gL_law_X4_reset : GoodIn wsL_law (wsV RL 85 RX4 yX4_reset wsX4_reset) := goodIn_app (goodIn_of _ (by decide +kernel)) ggL_law_X4_reset
set_option maxRecDepth 20000 in
theorem ggL_law_X5_reset : GoodIn wsL_law wsX5_reset := goodIn_r _ [608, 87, 409, 484, 371, 65, 616, 617, 618, 619, 620, 621, 622, 623, 624, 625, 626, 627, 628, 629, 630, 631, 632, 633, 634, 635, 636] rfl (by decide +kernel)
set_option maxRecDepth 20000 in
theorem gL_law_X5_reset : GoodIn wsL_law (wsV RL 88 RX5 yX5_reset wsX5_reset) := goodIn_app (goodIn_of _ (by decide +kernel)) ggL_law_X5_reset
