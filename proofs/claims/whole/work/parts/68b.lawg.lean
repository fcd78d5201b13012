set_option maxRecDepth 20000 in
theorem ggL_law_X2_undo : GoodIn wsL_law wsX2_undo := goodIn_r _ [415, 284, 365, 52, 54, 629, 630, 631, 632, 633, 634, 635, 636, 637, 638, 639, 640, 641, 642, 643] (by decide +kernel) (by decide +kernel)
set_option maxRecDepth 20000 in
theorem gL_law_X2_undo : GoodIn wsL_law (wsV RL 71 RX2 yX2_undo wsX2_undo) := goodIn_app (goodIn_of _ (by decide +kernel)) ggL_law_X2_undo
set_option maxRecDepth 20000 in
theorem ggL_law_X1_ahead : GoodIn wsL_law wsX1_ahead := goodIn_r _ [419, 17, 16, 292, 293, 101, 272, 273, 274, 15, 275, 33, 34, 35, 36, 37, 38, 39, 40, 276, 277, 278, 279, 41, 42, 43, 44, 45, 46, 171, 172, 173, 174, 175, 176, 177, 178, 179, 180, 181, 182, 140, 141, 142, 143, 144, 145, 146, 147, 148, 149, 150, 123, 124, 125, 126, 127, 128, 129, 130, 131, 132, 133, 134, 135, 151, 152, 153, 154, 109, 110, 111, 112, 155, 156, 157, 158, 159, 160, 161, 162, 163, 164, 165, 166, 167, 168, 169, 170, 183, 184, 185, 186, 187, 188, 189, 190, 195, 196, 197, 198, 616, 617, 618, 619, 620, 621, 622, 623, 624, 625, 626, 627, 628, 644, 645, 646, 647, 648, 649, 650, 651, 652, 653, 654, 655, 656, 657] (by decide +kernel) (by decide +kernel)
set_option maxRecDepth 20000 in
theorem gL_law_X1_ahead : GoodIn wsL_law (wsV RL 72 RX1 yX1_ahead wsX1_ahead) := goodIn_app (goodIn_of _ (by decide +kernel)) ggL_law_X1_ahead
set_option maxRecDepth 20000 in
theorem ggL_law_X2_ahead : GoodIn wsL_law wsX2_ahead := goodIn_r _ [423, 424, 425, 52, 53, 75, 76, 5, 77, 285, 286, 287, 208, 209, 210, 211, 212, 213, 214, 215, 216, 217, 218, 219, 220, 221, 222, 223, 224, 225, 226, 227, 228, 229, 230, 231, 232, 233, 234, 235, 236, 237, 238, 239, 240, 241, 242, 243, 244, 245, 246, 247, 248, 249, 250, 251, 252, 253, 254, 255, 256, 629, 630, 631, 632, 633, 634, 635, 636, 637, 638, 639, 640, 641, 642, 643] (by decide +kernel) (by decide +kernel)
set_option maxRecDepth 20000 in
theorem gL_law_X2_ahead : GoodIn wsL_law (wsV RL 75 RX2 yX2_ahead wsX2_ahead) := goodIn_app (goodIn_of _ (by decide +kernel)) ggL_law_X2_ahead
set_option maxRecDepth 20000 in
theorem ggL_law_X1_crowd : GoodIn wsL_law wsX1_crowd := goodIn_r _ [429, 17, 16, 430, 129, 130, 131, 272, 273, 274, 15, 275, 33, 34, 35, 36, 37, 38, 39, 40, 276, 277, 278, 279, 41, 42, 43, 44, 45, 46, 171, 172, 173, 174, 175, 176, 177, 178, 179, 180, 181, 182, 140, 141, 142, 143, 144, 145, 146, 147, 148, 149, 150, 123, 124, 125, 126, 127, 128, 132, 133, 134, 135, 151, 152, 153, 154, 109, 110, 111, 112, 155, 156, 157, 158, 159, 160, 161, 162, 163, 164, 165, 166, 167, 168, 169, 170, 183, 184, 185, 186, 187, 188, 189, 190, 616, 617, 618, 619, 620, 621, 622, 623, 624, 625, 626, 627, 628, 644, 645, 646, 647, 648, 649, 650, 651, 652, 653, 654, 655, 656, 657] (by decide +kernel) (by decide +kernel)
set_option maxRecDepth 20000 in
theorem gL_law_X1_crowd : GoodIn wsL_law (wsV RL 76 RX1 yX1_crowd wsX1_crowd) := goodIn_app (goodIn_of _ (by decide +kernel)) ggL_law_X1_crowd
set_option maxRecDepth 20000 in
theorem ggL_law_X2_crowd : GoodIn wsL_law wsX2_crowd := goodIn_r _ [434, 424, 52, 53, 75, 76, 5, 77, 285, 286, 287, 208, 209, 210, 211, 212, 213, 214, 215, 216, 217, 218, 219, 220, 221, 222, 223, 224, 225, 226, 227, 228, 229, 230, 231, 232, 233, 234, 235, 236, 237, 238, 239, 240, 241, 242, 243, 244, 245, 246, 247, 248, 249, 250, 251, 252, 253, 629, 630, 631, 632, 633, 634, 635, 636, 637, 638, 639, 640, 641, 642, 643] (by decide +kernel) (by decide +kernel)
set_option maxRecDepth 20000 in
theorem gL_law_X2_crowd : GoodIn wsL_law (wsV RL 79 RX2 yX2_crowd wsX2_crowd) := goodIn_app (goodIn_of _ (by decide +kernel)) ggL_law_X2_crowd
set_option maxRecDepth 20000 in
theorem ggL_law_X1_jitter : GoodIn wsL_law wsX1_jitter := goodIn_r _ [438, 439, 440, 130, 441, 442, 443, 2, 444, 445, 446, 447, 448] (by decide +kernel) (by decide +kernel)
set_option maxRecDepth 20000 in
theorem gL_law_X1_jitter : GoodIn wsL_law (wsV RL 82 RX1 yX1_jitter wsX1_jitter) := goodIn_app (goodIn_of _ (by decide +kernel)) ggL_law_X1_jitter
set_option maxRecDepth 20000 in
theorem ggL_law_X2_jitter : GoodIn wsL_law wsX2_jitter := goodIn_r _ [452, 453, 454, 75, 76, 5, 77, 455, 456, 457] (by decide +kernel) (by decide +kernel)
set_option maxRecDepth 20000 in
theorem gL_law_X2_jitter : GoodIn wsL_law (wsV RL 86 RX2 yX2_jitter wsX2_jitter) := goodIn_app (goodIn_of _ (by decide +kernel)) ggL_law_X2_jitter
set_option maxRecDepth 20000 in
theorem ggL_law_X1_round : GoodIn wsL_law wsX1_round := goodIn_r _ [461, 462, 463, 2, 464] (by decide +kernel) (by decide +kernel)
set_option maxRecDepth 20000 in
theorem gL_law_X1_round : GoodIn wsL_law (wsV RL 87 RX1 yX1_round wsX1_round) := goodIn_app (goodIn_of _ (by decide +kernel)) ggL_law_X1_round
set_option maxRecDepth 20000 in
theorem ggL_law_X2_round : GoodIn wsL_law wsX2_round := goodIn_r _ [468, 469, 75, 76, 5, 77] (by decide +kernel) (by decide +kernel)
set_option maxRecDepth 20000 in
theorem gL_law_X2_round : GoodIn wsL_law (wsV RL 91 RX2 yX2_round wsX2_round) := goodIn_app (goodIn_of _ (by decide +kernel)) ggL_law_X2_round
set_option maxRecDepth 20000 in
theorem ggL_law_X1_judge : GoodIn wsL_law wsX1_judge := goodIn_r _ [473, 17, 16, 442, 443, 2, 444, 445, 272, 273, 274, 15, 275, 33, 34, 35, 36, 37, 38, 39, 40, 276, 277, 278, 279, 41, 42, 43, 44, 45, 46, 446, 447, 448, 474, 475, 476, 477, 316, 113, 114, 115, 116, 117, 118, 119, 120, 121, 122, 123, 124, 125, 126, 127, 128, 129, 130, 131, 132, 133, 134, 135, 136, 137, 138, 139, 140, 141, 142, 143, 144, 145, 146, 147, 148, 149, 150, 151, 152, 153, 154, 109, 110, 111, 112, 155, 156, 157, 158, 159, 160, 161, 162, 163, 164, 165, 166, 167, 168, 169, 170, 171, 172, 173, 174, 175, 176, 177, 178, 179, 180, 181, 182, 183, 184, 185, 186, 187, 188, 189, 190, 321, 335, 322, 323, 324, 325, 387, 388, 389, 390, 616, 617, 618, 619, 620, 621, 622, 623, 624, 625, 626, 627, 628, 644, 645, 646, 647, 648, 649, 650, 651, 652, 653, 654, 655, 656, 657] (by decide +kernel) (by decide +kernel)
set_option maxRecDepth 20000 in
theorem gL_law_X1_judge : GoodIn wsL_law (wsV RL 92 RX1 yX1_judge wsX1_judge) := goodIn_app (goodIn_of _ (by decide +kernel)) ggL_law_X1_judge
set_option maxRecDepth 20000 in
theorem ggL_law_X2_judge : GoodIn wsL_law wsX2_judge := goodIn_r _ [481, 482, 483, 52, 53, 75, 76, 5, 77, 455, 456, 457, 285, 286, 287, 484, 485, 486, 487, 382, 257, 258, 259, 260, 261, 262, 263, 226, 227, 228, 229, 230, 231, 232, 233, 234, 235, 264, 265, 266, 220, 221, 222, 223, 224, 225, 245, 246, 247, 248, 249, 250, 239, 240, 241, 242, 243, 244, 208, 209, 210, 211, 212, 213, 214, 215, 216, 217, 218, 219, 236, 237, 238, 251, 252, 253, 629, 630, 631, 632, 633, 634, 635, 636, 637, 638, 639, 640, 641, 642, 643] (by decide +kernel) (by decide +kernel)
set_option maxRecDepth 20000 in
theorem gL_law_X2_judge : GoodIn wsL_law (wsV RL 95 RX2 yX2_judge wsX2_judge) := goodIn_app (goodIn_of _ (by decide +kernel)) ggL_law_X2_judge
set_option maxRecDepth 20000 in
theorem ggL_law_X1_see : GoodIn wsL_law wsX1_see := goodIn_r _ [491, 27, 25, 26, 616, 617, 618, 619, 620, 621, 622, 623, 624, 625, 626, 627, 628] (by decide +kernel) (by decide +kernel)
set_option maxRecDepth 20000 in
theorem gL_law_X1_see : GoodIn wsL_law (wsV RL 96 RX1 yX1_see wsX1_see) := goodIn_app (goodIn_of _ (by decide +kernel)) ggL_law_X1_see
set_option maxRecDepth 20000 in
theorem ggL_law_X2_see : GoodIn wsL_law wsX2_see := goodIn_r _ [495, 496, 424, 307, 58, 59, 75, 76, 5, 77, 629, 630, 631, 632, 633, 634, 635, 636, 637, 638, 639, 640, 641, 642, 643] (by decide +kernel) (by decide +kernel)
set_option maxRecDepth 20000 in
theorem gL_law_X2_see : GoodIn wsL_law (wsV RL 99 RX2 yX2_see wsX2_see) := goodIn_app (goodIn_of _ (by decide +kernel)) ggL_law_X2_see
set_option maxRecDepth 20000 in
theorem ggL_law_X1_unsee : GoodIn wsL_law wsX1_unsee := goodIn_r _ [500, 27, 616, 617, 618, 619, 620, 621, 622, 623, 624, 625, 626, 627, 628] (by decide +kernel) (by decide +kernel)
set_option maxRecDepth 20000 in
theorem gL_law_X1_unsee : GoodIn wsL_law (wsV RL 100 RX1 yX1_unsee wsX1_unsee) := goodIn_app (goodIn_of _ (by decide +kernel)) ggL_law_X1_unsee
set_option maxRecDepth 20000 in
theorem ggL_law_X2_unsee : GoodIn wsL_law wsX2_unsee := goodIn_r _ [504, 307, 629, 630, 631, 632, 633, 634, 635, 636, 637, 638, 639, 640, 641, 642, 643] (by decide +kernel) (by decide +kernel)
set_option maxRecDepth 20000 in
theorem gL_law_X2_unsee : GoodIn wsL_law (wsV RL 103 RX2 yX2_unsee wsX2_unsee) := goodIn_app (goodIn_of _ (by decide +kernel)) ggL_law_X2_unsee
set_option maxRecDepth 20000 in
theorem ggL_law_X1_which : GoodIn wsL_law wsX1_which := goodIn_r _ [508, 509, 510, 511, 2, 512, 17, 16, 99, 27, 25, 26, 272, 273, 274, 15, 275, 33, 34, 35, 36, 37, 38, 39, 40, 276, 277, 278, 279, 41, 42, 43, 44, 45, 46, 171, 172, 173, 174, 175, 176, 177, 178, 179, 180, 181, 182, 140, 141, 142, 143, 144, 145, 146, 147, 148, 149, 150, 123, 124, 125, 126, 127, 128, 129, 130, 131, 132, 133, 134, 135, 151, 152, 153, 154, 109, 110, 111, 112, 155, 156, 157, 158, 159, 160, 161, 162, 163, 164, 165, 166, 167, 168, 169, 170, 183, 184, 185, 186, 187, 188, 189, 190, 616, 617, 618, 619, 620, 621, 622, 623, 624, 625, 626, 627, 628, 644, 645, 646, 647, 648, 649, 650, 651, 652, 653, 654, 655, 656, 657] (by decide +kernel) (by decide +kernel)
set_option maxRecDepth 20000 in
theorem gL_law_X1_which : GoodIn wsL_law (wsV RL 104 RX1 yX1_which wsX1_which) := goodIn_app (goodIn_of _ (by decide +kernel)) ggL_law_X1_which
set_option maxRecDepth 20000 in
theorem ggL_law_X2_which : GoodIn wsL_law wsX2_which := goodIn_r _ [516, 307, 52, 53, 58, 59, 285, 286, 5, 287, 208, 209, 210, 211, 212, 213, 214, 215, 216, 217, 218, 219, 220, 221, 222, 223, 224, 225, 226, 227, 228, 229, 230, 231, 232, 233, 234, 235, 236, 237, 238, 239, 240, 241, 242, 243, 244, 245, 246, 247, 248, 249, 250, 251, 252, 253, 629, 630, 631, 632, 633, 634, 635, 636, 637, 638, 639, 640, 641, 642, 643] (by decide +kernel) (by decide +kernel)
set_option maxRecDepth 20000 in
theorem gL_law_X2_which : GoodIn wsL_law (wsV RL 107 RX2 yX2_which wsX2_which) := goodIn_app (goodIn_of _ (by decide +kernel)) ggL_law_X2_which
set_option maxRecDepth 20000 in
theorem ggL_law_X1_share : GoodIn wsL_law wsX1_share := goodIn_r _ [520, 29, 521, 321, 117, 2, 118, 522, 523, 524, 525, 16, 17, 526, 527, 528, 15, 529, 41, 40, 272, 273, 274, 275, 33, 34, 35, 36, 37, 38, 39, 276, 277, 278, 279, 42, 43, 44, 45, 46, 530, 531, 532, 533, 109, 110, 111, 112, 171, 172, 173, 174, 175, 176, 177, 178, 179, 180, 181, 182, 140, 141, 142, 143, 144, 145, 146, 147, 148, 149, 150, 123, 124, 125, 126, 127, 128, 129, 130, 131, 132, 133, 134, 135, 151, 152, 153, 154, 155, 156, 157, 158, 159, 160, 161, 162, 163, 164, 165, 166, 167, 168, 169, 170, 183, 184, 185, 186, 187, 188, 189, 190, 534, 535, 536, 537, 439, 440, 441, 538, 539, 540, 430, 616, 617, 618, 619, 620, 621, 622, 623, 624, 625, 626, 627, 628, 644, 645, 646, 647, 648, 649, 650, 651, 652, 653, 654, 655, 656, 657] (by decide +kernel) (by decide +kernel)
set_option maxRecDepth 20000 in
theorem gL_law_X1_share : GoodIn wsL_law (wsV RL 108 RX1 yX1_share wsX1_share) := goodIn_app (goodIn_of _ (by decide +kernel)) ggL_law_X1_share
set_option maxRecDepth 20000 in
theorem ggL_law_X2_share : GoodIn wsL_law wsX2_share := goodIn_r _ [544, 60, 257, 258, 5, 259, 260, 75, 76, 77, 545, 546, 547, 548, 52, 53, 285, 286, 287, 242, 243, 244, 248, 249, 250, 208, 209, 210, 211, 212, 213, 214, 215, 216, 217, 218, 219, 220, 221, 222, 223, 224, 225, 226, 227, 228, 229, 230, 231, 232, 233, 234, 235, 236, 237, 238, 239, 240, 241, 245, 246, 247, 251, 252, 253, 549, 550, 551, 552, 553, 554, 629, 630, 631, 632, 633, 634, 635, 636, 637, 638, 639, 640, 641, 642, 643] (by decide +kernel) (by decide +kernel)
set_option maxRecDepth 20000 in
theorem gL_law_X2_share : GoodIn wsL_law (wsV RL 112 RX2 yX2_share wsX2_share) := goodIn_app (goodIn_of _ (by decide +kernel)) ggL_law_X2_share
set_option maxRecDepth 20000 in
theorem ggL_law_X1_chance : GoodIn wsL_law wsX1_chance := goodIn_r _ [558, 29, 559, 522, 523, 524, 2, 525, 16, 17, 526, 527, 528, 15, 529, 41, 40, 272, 273, 274, 275, 33, 34, 35, 36, 37, 38, 39, 276, 277, 278, 279, 42, 43, 44, 45, 46, 530, 531, 532, 533, 109, 110, 111, 112, 171, 172, 173, 174, 175, 176, 177, 178, 179, 180, 181, 182, 140, 141, 142, 143, 144, 145, 146, 147, 148, 149, 150, 123, 124, 125, 126, 127, 128, 129, 130, 131, 132, 133, 134, 135, 151, 152, 153, 154, 155, 156, 157, 158, 159, 160, 161, 162, 163, 164, 165, 166, 167, 168, 169, 170, 183, 184, 185, 186, 187, 188, 189, 190, 560, 561, 562, 535, 536, 537, 439, 440, 441, 538, 539, 540, 430, 616, 617, 618, 619, 620, 621, 622, 623, 624, 625, 626, 627, 628, 644, 645, 646, 647, 648, 649, 650, 651, 652, 653, 654, 655, 656, 657] (by decide +kernel) (by decide +kernel)
set_option maxRecDepth 20000 in
theorem gL_law_X1_chance : GoodIn wsL_law (wsV RL 113 RX1 yX1_chance wsX1_chance) := goodIn_app (goodIn_of _ (by decide +kernel)) ggL_law_X1_chance
set_option maxRecDepth 20000 in
theorem ggL_law_X2_chance : GoodIn wsL_law wsX2_chance := goodIn_r _ [566, 424, 567, 75, 76, 5, 77, 223, 224, 225, 545, 546, 547, 548, 52, 53, 285, 286, 287, 242, 243, 244, 248, 249, 250, 208, 209, 210, 211, 212, 213, 214, 215, 216, 217, 218, 219, 220, 221, 222, 226, 227, 228, 229, 230, 231, 232, 233, 234, 235, 236, 237, 238, 239, 240, 241, 245, 246, 247, 251, 252, 253, 568, 569, 570, 552, 553, 554, 629, 630, 631, 632, 633, 634, 635, 636, 637, 638, 639, 640, 641, 642, 643] (by decide +kernel) (by decide +kernel)
set_option maxRecDepth 20000 in
theorem gL_law_X2_chance : GoodIn wsL_law (wsV RL 117 RX2 yX2_chance wsX2_chance) := goodIn_app (goodIn_of _ (by decide +kernel)) ggL_law_X2_chance
set_option maxRecDepth 20000 in
theorem ggL_law_X1_seed : GoodIn wsL_law wsX1_seed := goodIn_r _ [574, 28, 616, 617, 618, 619, 620, 621, 622, 623, 624, 625, 626, 627, 628] (by decide +kernel) (by decide +kernel)
set_option maxRecDepth 20000 in
theorem gL_law_X1_seed : GoodIn wsL_law (wsV RL 118 RX1 yX1_seed wsX1_seed) := goodIn_app (goodIn_of _ (by decide +kernel)) ggL_law_X1_seed
set_option maxRecDepth 20000 in
theorem ggL_law_X2_seed : GoodIn wsL_law wsX2_seed := goodIn_r _ [578, 579, 629, 630, 631, 632, 633, 634, 635, 636, 637, 638, 639, 640, 641, 642, 643] (by decide +kernel) (by decide +kernel)
set_option maxRecDepth 20000 in
theorem gL_law_X2_seed : GoodIn wsL_law (wsV RL 122 RX2 yX2_seed wsX2_seed) := goodIn_app (goodIn_of _ (by decide +kernel)) ggL_law_X2_seed
set_option maxRecDepth 20000 in
theorem ggL_law_X1_drawn : GoodIn wsL_law wsX1_drawn := goodIn_r _ [583, 17, 16, 28, 584, 585, 272, 273, 274, 15, 275, 33, 34, 35, 36, 37, 38, 39, 40, 276, 277, 278, 279, 41, 42, 43, 44, 45, 46, 586, 176, 177, 178, 587, 588, 589, 590, 591, 114, 115, 116, 117, 2, 118, 119, 120, 121, 122, 123, 124, 125, 126, 127, 128, 129, 130, 131, 132, 133, 134, 135, 592, 137, 138, 139, 140, 141, 142, 143, 144, 145, 146, 147, 148, 149, 150, 151, 152, 153, 154, 109, 110, 111, 112, 155, 156, 157, 158, 159, 160, 161, 162, 163, 164, 165, 166, 167, 168, 169, 170, 171, 172, 173, 174, 175, 179, 180, 181, 182, 183, 184, 185, 186, 187, 188, 189, 190, 616, 617, 618, 619, 620, 621, 622, 623, 624, 625, 626, 627, 628, 644, 645, 646, 647, 648, 649, 650, 651, 652, 653, 654, 655, 656, 657] (by decide +kernel) (by decide +kernel)
set_option maxRecDepth 20000 in
theorem gL_law_X1_drawn : GoodIn wsL_law (wsV RL 123 RX1 yX1_drawn wsX1_drawn) := goodIn_app (goodIn_of _ (by decide +kernel)) ggL_law_X1_drawn
set_option maxRecDepth 20000 in
theorem ggL_law_X2_drawn : GoodIn wsL_law wsX2_drawn := goodIn_r _ [596, 597, 52, 53, 579, 598, 599, 75, 76, 5, 77, 285, 286, 287, 261, 262, 263, 226, 227, 228, 229, 230, 231, 232, 233, 234, 235, 264, 265, 266, 220, 221, 222, 223, 224, 225, 245, 246, 247, 248, 249, 250, 239, 240, 241, 242, 243, 244, 214, 215, 216, 217, 218, 219, 236, 237, 238, 251, 252, 253, 211, 212, 213, 629, 630, 631, 632, 633, 634, 635, 636, 637, 638, 639, 640, 641, 642, 643] (by decide +kernel) (by decide +kernel)
set_option maxRecDepth 20000 in
theorem gL_law_X2_drawn : GoodIn wsL_law (wsV RL 126 RX2 yX2_drawn wsX2_drawn) := goodIn_app (goodIn_of _ (by decide +kernel)) ggL_law_X2_drawn
set_option maxRecDepth 20000 in
theorem ggL_law_X1_keep : GoodIn wsL_law wsX1_keep := goodIn_r _ [603, 20, 16, 21, 271, 272, 273, 274, 15, 275, 33, 34, 35, 36, 37, 38, 39, 40, 276, 277, 278, 279, 41, 42, 43, 44, 45, 46, 616, 617, 618, 619, 620, 621, 622, 623, 624, 625, 626, 627, 628, 644, 645, 646, 647, 648, 649, 650, 651, 652, 653, 654, 655, 656, 657] (by decide +kernel) (by decide +kernel)
set_option maxRecDepth 20000 in
theorem gL_law_X1_keep : GoodIn wsL_law (wsV RL 127 RX1 yX1_keep wsX1_keep) := goodIn_app (goodIn_of _ (by decide +kernel)) ggL_law_X1_keep
set_option maxRecDepth 20000 in
theorem ggL_law_X2_keep : GoodIn wsL_law wsX2_keep := goodIn_r _ [607, 57, 55, 52, 75, 76, 5, 77, 629, 630, 631, 632, 633, 634, 635, 636, 637, 638, 639, 640, 641, 642, 643] (by decide +kernel) (by decide +kernel)
set_option maxRecDepth 20000 in
theorem gL_law_X2_keep : GoodIn wsL_law (wsV RL 130 RX2 yX2_keep wsX2_keep) := goodIn_app (goodIn_of _ (by decide +kernel)) ggL_law_X2_keep
set_option maxRecDepth 20000 in
theorem ggL_law_X1_again : GoodIn wsL_law wsX1_again := goodIn_r _ [611, 21, 16, 20, 19, 271, 272, 273, 274, 15, 275, 33, 34, 35, 36, 37, 38, 39, 40, 276, 277, 278, 279, 41, 42, 43, 44, 45, 46, 616, 617, 618, 619, 620, 621, 622, 623, 624, 625, 626, 627, 628, 644, 645, 646, 647, 648, 649, 650, 651, 652, 653, 654, 655, 656, 657] (by decide +kernel) (by decide +kernel)
set_option maxRecDepth 20000 in
theorem gL_law_X1_again : GoodIn wsL_law (wsV RL 131 RX1 yX1_again wsX1_again) := goodIn_app (goodIn_of _ (by decide +kernel)) ggL_law_X1_again
set_option maxRecDepth 20000 in
theorem ggL_law_X2_again : GoodIn wsL_law wsX2_again := goodIn_r _ [615, 57, 52, 55, 284, 75, 76, 5, 77, 629, 630, 631, 632, 633, 634, 635, 636, 637, 638, 639, 640, 641, 642, 643] (by decide +kernel) (by decide +kernel)
set_option maxRecDepth 20000 in
theorem gL_law_X2_again : GoodIn wsL_law (wsV RL 134 RX2 yX2_again wsX2_again) := goodIn_app (goodIn_of _ (by decide +kernel)) ggL_law_X2_again
