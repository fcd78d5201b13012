set_option maxRecDepth 20000 in
theorem ggL_law_X1_init : GoodIn wsL_law wsX1_init := goodIn_r _ [9, 10, 11, 12, 13, 14, 15, 16, 17, 18, 19, 20, 21, 22, 23, 24, 25, 26, 27, 28, 29, 30, 31, 32, 33, 34, 35, 36, 37, 38, 39, 40, 41, 42, 43, 44, 45, 46, 644, 645, 646, 647, 648, 649, 650, 651, 652, 653, 654, 655, 656, 657, 616, 617, 618, 619, 620, 621, 622, 623, 624, 625, 626, 627, 628] (by decide +kernel) (by decide +kernel)
set_option maxRecDepth 20000 in
theorem gL_law_X1_init : GoodIn wsL_law (wsX1_init) := ggL_law_X1_init
set_option maxRecDepth 20000 in
theorem ggL_law_X2_init : GoodIn wsL_law wsX2_init := goodIn_r _ [49, 50, 11, 12, 22, 51, 52, 53, 54, 55, 56, 57, 58, 59, 60, 61, 62, 63, 5, 64, 629, 630, 631, 632, 633, 634, 635, 636, 637, 638, 639, 640, 641, 642, 643] (by decide +kernel) (by decide +kernel)
set_option maxRecDepth 20000 in
theorem gL_law_X2_init : GoodIn wsL_law (wsX2_init) := ggL_law_X2_init
set_option maxRecDepth 20000 in
theorem ggL_law_X1_write : GoodIn wsL_law wsX1_write := goodIn_r _ [68, 24, 23, 616, 617, 618, 619, 620, 621, 622, 623, 624, 625, 626, 627, 628] (by decide +kernel) (by decide +kernel)
set_option maxRecDepth 20000 in
theorem gL_law_X1_write : GoodIn wsL_law (wsV RL 13 RX1 yX1_write wsX1_write) := goodIn_app (goodIn_of _ (by decide +kernel)) ggL_law_X1_write
set_option maxRecDepth 20000 in
theorem ggL_law_X2_write : GoodIn wsL_law wsX2_write := goodIn_r _ [72, 73, 74, 51, 75, 76, 5, 77, 629, 630, 631, 632, 633, 634, 635, 636, 637, 638, 639, 640, 641, 642, 643] (by decide +kernel) (by decide +kernel)
set_option maxRecDepth 20000 in
theorem gL_law_X2_write : GoodIn wsL_law (wsV RL 17 RX2 yX2_write wsX2_write) := goodIn_app (goodIn_of _ (by decide +kernel)) ggL_law_X2_write
set_option maxRecDepth 20000 in
theorem ggL_law_X1_wipe : GoodIn wsL_law wsX1_wipe := goodIn_r _ [81, 24, 616, 617, 618, 619, 620, 621, 622, 623, 624, 625, 626, 627, 628] (by decide +kernel) (by decide +kernel)
set_option maxRecDepth 20000 in
theorem gL_law_X1_wipe : GoodIn wsL_law (wsV RL 18 RX1 yX1_wipe wsX1_wipe) := goodIn_app (goodIn_of _ (by decide +kernel)) ggL_law_X1_wipe
set_option maxRecDepth 20000 in
theorem ggL_law_X2_wipe : GoodIn wsL_law wsX2_wipe := goodIn_r _ [85, 74, 629, 630, 631, 632, 633, 634, 635, 636, 637, 638, 639, 640, 641, 642, 643] (by decide +kernel) (by decide +kernel)
set_option maxRecDepth 20000 in
theorem gL_law_X2_wipe : GoodIn wsL_law (wsV RL 22 RX2 yX2_wipe wsX2_wipe) := goodIn_app (goodIn_of _ (by decide +kernel)) ggL_law_X2_wipe
set_option maxRecDepth 20000 in
theorem ggL_law_X1_fault : GoodIn wsL_law wsX1_fault := goodIn_r _ [89, 90, 91, 92, 2, 93, 24, 23, 17, 94, 95, 96, 97, 98, 99, 100, 101, 102, 103, 104, 105, 106, 107, 15, 108, 36, 38, 39, 45, 109, 110, 111, 112, 40, 41, 42, 43, 44, 113, 114, 115, 116, 117, 118, 119, 120, 121, 122, 123, 124, 125, 126, 37, 127, 128, 129, 130, 131, 132, 133, 134, 135, 34, 35, 33, 136, 137, 138, 139, 140, 141, 142, 143, 144, 145, 146, 147, 148, 149, 150, 151, 152, 153, 154, 155, 156, 157, 158, 159, 160, 161, 162, 163, 164, 165, 166, 167, 168, 169, 170, 171, 172, 173, 174, 175, 176, 177, 178, 179, 180, 181, 182, 183, 184, 185, 186, 46, 187, 188, 189, 190, 191, 192, 193, 194, 195, 196, 197, 198, 616, 617, 618, 619, 620, 621, 622, 623, 624, 625, 626, 627, 628, 644, 645, 646, 647, 648, 649, 650, 651, 652, 653, 654, 655, 656, 657] (by decide +kernel) (by decide +kernel)
set_option maxRecDepth 20000 in
theorem gL_law_X1_fault : GoodIn wsL_law (wsV RL 23 RX1 yX1_fault wsX1_fault) := goodIn_app (goodIn_of _ (by decide +kernel)) ggL_law_X1_fault
set_option maxRecDepth 20000 in
theorem ggL_law_X2_fault : GoodIn wsL_law wsX2_fault := goodIn_r _ [202, 203, 204, 205, 5, 206, 61, 74, 51, 207, 62, 63, 64, 75, 76, 77, 208, 209, 210, 211, 212, 213, 214, 215, 216, 217, 218, 219, 220, 221, 222, 223, 224, 225, 226, 227, 228, 229, 230, 231, 232, 233, 234, 235, 236, 237, 238, 239, 240, 241, 242, 243, 244, 245, 246, 247, 248, 249, 250, 251, 252, 253, 254, 255, 256, 257, 258, 259, 260, 261, 262, 263, 264, 265, 266, 629, 630, 631, 632, 633, 634, 635, 636, 637, 638, 639, 640, 641, 642, 643] (by decide +kernel) (by decide +kernel)
set_option maxRecDepth 20000 in
theorem gL_law_X2_fault : GoodIn wsL_law (wsV RL 26 RX2 yX2_fault wsX2_fault) := goodIn_app (goodIn_of _ (by decide +kernel)) ggL_law_X2_fault
set_option maxRecDepth 20000 in
theorem ggL_law_X1_meeting : GoodIn wsL_law wsX1_meeting := goodIn_r _ [270, 16, 17, 19, 21, 271, 90, 91, 92, 2, 93, 24, 23, 94, 95, 96, 97, 98, 99, 100, 101, 102, 103, 104, 105, 106, 107, 15, 108, 36, 38, 39, 45, 109, 110, 111, 112, 40, 41, 42, 43, 44, 113, 114, 115, 116, 117, 118, 119, 120, 121, 122, 123, 124, 125, 126, 37, 127, 128, 129, 130, 131, 132, 133, 134, 135, 34, 35, 33, 136, 137, 138, 139, 140, 141, 142, 143, 144, 145, 146, 147, 148, 149, 150, 151, 152, 153, 154, 155, 156, 157, 158, 159, 160, 161, 162, 163, 164, 165, 166, 167, 168, 169, 170, 171, 172, 173, 174, 175, 176, 177, 178, 179, 180, 181, 182, 183, 184, 185, 186, 46, 187, 188, 189, 190, 191, 192, 193, 194, 195, 196, 197, 198, 272, 273, 274, 275, 276, 277, 278, 279, 616, 617, 618, 619, 620, 621, 622, 623, 624, 625, 626, 627, 628, 644, 645, 646, 647, 648, 649, 650, 651, 652, 653, 654, 655, 656, 657] (by decide +kernel) (by decide +kernel)
set_option maxRecDepth 20000 in
theorem gL_law_X1_meeting : GoodIn wsL_law (wsV RL 27 RX1 yX1_meeting wsX1_meeting) := goodIn_app (goodIn_of _ (by decide +kernel)) ggL_law_X1_meeting
set_option maxRecDepth 20000 in
theorem ggL_law_X2_meeting : GoodIn wsL_law wsX2_meeting := goodIn_r _ [283, 61, 52, 284, 57, 203, 204, 205, 5, 206, 74, 51, 207, 62, 63, 64, 75, 76, 77, 208, 209, 210, 211, 212, 213, 214, 215, 216, 217, 218, 219, 220, 221, 222, 223, 224, 225, 226, 227, 228, 229, 230, 231, 232, 233, 234, 235, 236, 237, 238, 239, 240, 241, 242, 243, 244, 245, 246, 247, 248, 249, 250, 251, 252, 253, 254, 255, 256, 257, 258, 259, 260, 261, 262, 263, 264, 265, 266, 285, 286, 287, 629, 630, 631, 632, 633, 634, 635, 636, 637, 638, 639, 640, 641, 642, 643] (by decide +kernel) (by decide +kernel)
set_option maxRecDepth 20000 in
theorem gL_law_X2_meeting : GoodIn wsL_law (wsV RL 30 RX2 yX2_meeting wsX2_meeting) := goodIn_app (goodIn_of _ (by decide +kernel)) ggL_law_X2_meeting
set_option maxRecDepth 20000 in
theorem ggL_law_X1_about : GoodIn wsL_law wsX1_about := goodIn_r _ [291, 16, 98, 99, 100, 271, 101, 292, 293, 19, 27, 24, 195, 196, 197, 15, 198, 40, 294, 295, 296, 2, 297, 17, 272, 273, 274, 275, 33, 34, 35, 36, 37, 38, 39, 276, 277, 278, 279, 41, 42, 43, 44, 45, 46, 298, 299, 300, 301, 302, 171, 172, 173, 174, 175, 176, 177, 178, 179, 180, 181, 182, 140, 141, 142, 143, 144, 145, 146, 147, 148, 149, 150, 123, 124, 125, 126, 127, 128, 129, 130, 131, 132, 133, 134, 135, 151, 152, 153, 154, 109, 110, 111, 112, 155, 156, 157, 158, 159, 160, 161, 162, 163, 164, 165, 166, 167, 168, 169, 170, 183, 184, 185, 186, 187, 188, 189, 190, 616, 617, 618, 619, 620, 621, 622, 623, 624, 625, 626, 627, 628, 644, 645, 646, 647, 648, 649, 650, 651, 652, 653, 654, 655, 656, 657] (by decide +kernel) (by decide +kernel)
set_option maxRecDepth 20000 in
theorem gL_law_X1_about : GoodIn wsL_law (wsV RL 31 RX1 yX1_about wsX1_about) := goodIn_app (goodIn_of _ (by decide +kernel)) ggL_law_X1_about
set_option maxRecDepth 20000 in
theorem ggL_law_X2_about : GoodIn wsL_law wsX2_about := goodIn_r _ [306, 52, 284, 307, 74, 254, 255, 5, 256, 308, 309, 310, 311, 53, 285, 286, 287, 214, 215, 216, 217, 218, 219, 220, 221, 222, 223, 224, 225, 226, 227, 228, 229, 230, 231, 232, 233, 234, 235, 236, 237, 238, 239, 240, 241, 242, 243, 244, 245, 246, 247, 248, 249, 250, 251, 252, 253, 629, 630, 631, 632, 633, 634, 635, 636, 637, 638, 639, 640, 641, 642, 643] (by decide +kernel) (by decide +kernel)
set_option maxRecDepth 20000 in
theorem gL_law_X2_about : GoodIn wsL_law (wsV RL 34 RX2 yX2_about wsX2_about) := goodIn_app (goodIn_of _ (by decide +kernel)) ggL_law_X2_about
set_option maxRecDepth 20000 in
theorem ggL_law_X1_member : GoodIn wsL_law wsX1_member := goodIn_r _ [315, 16, 316, 317, 318, 319, 320, 321, 117, 2, 118, 322, 323, 324, 15, 325, 40, 140, 141, 142, 143, 41, 144, 145, 146, 147, 148, 149, 150, 616, 617, 618, 619, 620, 621, 622, 623, 624, 625, 626, 627, 628, 644, 645, 646, 647, 648, 649, 650, 651, 652, 653, 654, 655, 656, 657] (by decide +kernel) (by decide +kernel)
set_option maxRecDepth 20000 in
theorem gL_law_X1_member : GoodIn wsL_law (wsV RL 35 RX1 yX1_member wsX1_member) := goodIn_app (goodIn_of _ (by decide +kernel)) ggL_law_X1_member
set_option maxRecDepth 20000 in
theorem ggL_law_X2_member : GoodIn wsL_law wsX2_member := goodIn_r _ [329, 52, 257, 258, 5, 259, 260, 75, 76, 77, 220, 221, 222, 223, 224, 225, 629, 630, 631, 632, 633, 634, 635, 636, 637, 638, 639, 640, 641, 642, 643] (by decide +kernel) (by decide +kernel)
set_option maxRecDepth 20000 in
theorem gL_law_X2_member : GoodIn wsL_law (wsV RL 39 RX2 yX2_member wsX2_member) := goodIn_app (goodIn_of _ (by decide +kernel)) ggL_law_X2_member
set_option maxRecDepth 20000 in
theorem ggL_law_X1_heard : GoodIn wsL_law wsX1_heard := goodIn_r _ [333, 16, 334, 321, 117, 2, 118, 335, 168, 169, 15, 170, 41, 616, 617, 618, 619, 620, 621, 622, 623, 624, 625, 626, 627, 628, 644, 645, 646, 647, 648, 649, 650, 651, 652, 653, 654, 655, 656, 657] (by decide +kernel) (by decide +kernel)
set_option maxRecDepth 20000 in
theorem gL_law_X1_heard : GoodIn wsL_law (wsV RL 40 RX1 yX1_heard wsX1_heard) := goodIn_app (goodIn_of _ (by decide +kernel)) ggL_law_X1_heard
set_option maxRecDepth 20000 in
theorem ggL_law_X2_heard : GoodIn wsL_law wsX2_heard := goodIn_r _ [339, 52, 257, 258, 5, 259, 260, 75, 76, 77, 242, 243, 244, 629, 630, 631, 632, 633, 634, 635, 636, 637, 638, 639, 640, 641, 642, 643] (by decide +kernel) (by decide +kernel)
set_option maxRecDepth 20000 in
theorem gL_law_X2_heard : GoodIn wsL_law (wsV RL 43 RX2 yX2_heard wsX2_heard) := goodIn_app (goodIn_of _ (by decide +kernel)) ggL_law_X2_heard
set_option maxRecDepth 20000 in
theorem ggL_law_X1_way : GoodIn wsL_law wsX1_way := goodIn_r _ [343, 16, 321, 117, 2, 118, 344, 160, 161, 15, 162, 45, 616, 617, 618, 619, 620, 621, 622, 623, 624, 625, 626, 627, 628, 644, 645, 646, 647, 648, 649, 650, 651, 652, 653, 654, 655, 656, 657] (by decide +kernel) (by decide +kernel)
set_option maxRecDepth 20000 in
theorem gL_law_X1_way : GoodIn wsL_law (wsV RL 44 RX1 yX1_way wsX1_way) := goodIn_app (goodIn_of _ (by decide +kernel)) ggL_law_X1_way
set_option maxRecDepth 20000 in
theorem ggL_law_X2_way : GoodIn wsL_law wsX2_way := goodIn_r _ [348, 52, 257, 258, 5, 259, 260, 75, 76, 77, 242, 243, 244, 629, 630, 631, 632, 633, 634, 635, 636, 637, 638, 639, 640, 641, 642, 643] (by decide +kernel) (by decide +kernel)
set_option maxRecDepth 20000 in
theorem gL_law_X2_way : GoodIn wsL_law (wsV RL 47 RX2 yX2_way wsX2_way) := goodIn_app (goodIn_of _ (by decide +kernel)) ggL_law_X2_way
set_option maxRecDepth 20000 in
theorem ggL_law_X1_join : GoodIn wsL_law wsX1_join := goodIn_r _ [352, 16, 316, 319, 321, 117, 2, 118, 353, 354, 355, 356, 19, 18, 272, 273, 274, 15, 275, 33, 34, 35, 36, 37, 38, 39, 40, 276, 277, 278, 279, 41, 42, 43, 44, 45, 46, 113, 114, 115, 116, 119, 120, 121, 122, 123, 124, 125, 126, 127, 128, 129, 130, 131, 132, 133, 134, 135, 616, 617, 618, 619, 620, 621, 622, 623, 624, 625, 626, 627, 628, 644, 645, 646, 647, 648, 649, 650, 651, 652, 653, 654, 655, 656, 657] (by decide +kernel) (by decide +kernel)
set_option maxRecDepth 20000 in
theorem gL_law_X1_join : GoodIn wsL_law (wsV RL 48 RX1 yX1_join wsX1_join) := goodIn_app (goodIn_of _ (by decide +kernel)) ggL_law_X1_join
set_option maxRecDepth 20000 in
theorem ggL_law_X2_join : GoodIn wsL_law wsX2_join := goodIn_r _ [360, 52, 257, 258, 5, 259, 260, 75, 76, 77, 361, 362, 363, 364, 54, 365, 284, 261, 262, 263, 226, 227, 228, 229, 230, 231, 232, 233, 234, 235, 629, 630, 631, 632, 633, 634, 635, 636, 637, 638, 639, 640, 641, 642, 643] (by decide +kernel) (by decide +kernel)
set_option maxRecDepth 20000 in
theorem gL_law_X2_join : GoodIn wsL_law (wsV RL 51 RX2 yX2_join wsX2_join) := goodIn_app (goodIn_of _ (by decide +kernel)) ggL_law_X2_join
set_option maxRecDepth 20000 in
theorem ggL_law_X1_leave : GoodIn wsL_law wsX1_leave := goodIn_r _ [369, 16, 316, 319, 321, 117, 2, 118, 353, 354, 355, 356, 19, 18, 272, 273, 274, 15, 275, 33, 34, 35, 36, 37, 38, 39, 40, 276, 277, 278, 279, 41, 42, 43, 44, 45, 46, 136, 137, 138, 139, 140, 141, 142, 143, 144, 145, 146, 147, 148, 149, 150, 151, 152, 153, 154, 109, 110, 111, 112, 155, 156, 157, 158, 159, 160, 161, 162, 163, 164, 165, 166, 128, 129, 130, 131, 167, 168, 169, 170, 119, 120, 121, 122, 123, 124, 125, 126, 127, 132, 133, 134, 135, 616, 617, 618, 619, 620, 621, 622, 623, 624, 625, 626, 627, 628, 644, 645, 646, 647, 648, 649, 650, 651, 652, 653, 654, 655, 656, 657] (by decide +kernel) (by decide +kernel)
set_option maxRecDepth 20000 in
theorem gL_law_X1_leave : GoodIn wsL_law (wsV RL 52 RX1 yX1_leave wsX1_leave) := goodIn_app (goodIn_of _ (by decide +kernel)) ggL_law_X1_leave
set_option maxRecDepth 20000 in
theorem ggL_law_X2_leave : GoodIn wsL_law wsX2_leave := goodIn_r _ [373, 52, 257, 258, 5, 259, 260, 75, 76, 77, 361, 362, 363, 364, 54, 365, 284, 264, 265, 266, 220, 221, 222, 223, 224, 225, 245, 246, 247, 248, 249, 250, 239, 240, 241, 242, 243, 244, 226, 227, 228, 229, 230, 231, 232, 233, 234, 235, 629, 630, 631, 632, 633, 634, 635, 636, 637, 638, 639, 640, 641, 642, 643] (by decide +kernel) (by decide +kernel)
set_option maxRecDepth 20000 in
theorem gL_law_X2_leave : GoodIn wsL_law (wsV RL 55 RX2 yX2_leave wsX2_leave) := goodIn_app (goodIn_of _ (by decide +kernel)) ggL_law_X2_leave
set_option maxRecDepth 20000 in
theorem ggL_law_X1_pass : GoodIn wsL_law wsX1_pass := goodIn_r _ [377, 16, 353, 354, 355, 2, 356, 19, 18, 272, 273, 274, 15, 275, 33, 34, 35, 36, 37, 38, 39, 40, 276, 277, 278, 279, 41, 42, 43, 44, 45, 46, 171, 172, 173, 174, 175, 176, 177, 178, 179, 180, 181, 182, 140, 141, 142, 143, 144, 145, 146, 147, 148, 149, 150, 123, 124, 125, 126, 127, 128, 129, 130, 131, 132, 133, 134, 135, 151, 152, 153, 154, 109, 110, 111, 112, 155, 156, 157, 158, 159, 160, 161, 162, 163, 164, 165, 166, 167, 168, 169, 170, 183, 184, 185, 186, 187, 188, 189, 190, 616, 617, 618, 619, 620, 621, 622, 623, 624, 625, 626, 627, 628, 644, 645, 646, 647, 648, 649, 650, 651, 652, 653, 654, 655, 656, 657] (by decide +kernel) (by decide +kernel)
set_option maxRecDepth 20000 in
theorem gL_law_X1_pass : GoodIn wsL_law (wsV RL 56 RX1 yX1_pass wsX1_pass) := goodIn_app (goodIn_of _ (by decide +kernel)) ggL_law_X1_pass
set_option maxRecDepth 20000 in
theorem ggL_law_X2_pass : GoodIn wsL_law wsX2_pass := goodIn_r _ [381, 382, 52, 75, 76, 5, 77, 361, 362, 363, 364, 54, 365, 284, 208, 209, 210, 211, 212, 213, 214, 215, 216, 217, 218, 219, 220, 221, 222, 223, 224, 225, 226, 227, 228, 229, 230, 231, 232, 233, 234, 235, 236, 237, 238, 239, 240, 241, 242, 243, 244, 245, 246, 247, 248, 249, 250, 251, 252, 253, 629, 630, 631, 632, 633, 634, 635, 636, 637, 638, 639, 640, 641, 642, 643] (by decide +kernel) (by decide +kernel)
set_option maxRecDepth 20000 in
theorem gL_law_X2_pass : GoodIn wsL_law (wsV RL 59 RX2 yX2_pass wsX2_pass) := goodIn_app (goodIn_of _ (by decide +kernel)) ggL_law_X2_pass
set_option maxRecDepth 20000 in
theorem ggL_law_X1_turn : GoodIn wsL_law wsX1_turn := goodIn_r _ [386, 16, 321, 117, 2, 118, 353, 354, 355, 356, 19, 18, 272, 273, 274, 15, 275, 33, 34, 35, 36, 37, 38, 39, 40, 276, 277, 278, 279, 41, 42, 43, 44, 45, 46, 387, 388, 389, 390, 344, 160, 161, 162, 616, 617, 618, 619, 620, 621, 622, 623, 624, 625, 626, 627, 628, 644, 645, 646, 647, 648, 649, 650, 651, 652, 653, 654, 655, 656, 657] (by decide +kernel) (by decide +kernel)
set_option maxRecDepth 20000 in
theorem gL_law_X1_turn : GoodIn wsL_law (wsV RL 60 RX1 yX1_turn wsX1_turn) := goodIn_app (goodIn_of _ (by decide +kernel)) ggL_law_X1_turn
set_option maxRecDepth 20000 in
theorem ggL_law_X2_turn : GoodIn wsL_law wsX2_turn := goodIn_r _ [394, 52, 257, 258, 5, 259, 260, 75, 76, 77, 361, 362, 363, 364, 54, 365, 284, 242, 243, 244, 629, 630, 631, 632, 633, 634, 635, 636, 637, 638, 639, 640, 641, 642, 643] (by decide +kernel) (by decide +kernel)
set_option maxRecDepth 20000 in
theorem gL_law_X2_turn : GoodIn wsL_law (wsV RL 63 RX2 yX2_turn wsX2_turn) := goodIn_app (goodIn_of _ (by decide +kernel)) ggL_law_X2_turn
set_option maxRecDepth 20000 in
theorem ggL_law_X1_set : GoodIn wsL_law wsX1_set := goodIn_r _ [398, 16, 353, 354, 355, 2, 356, 19, 18, 272, 273, 274, 15, 275, 33, 34, 35, 36, 37, 38, 39, 40, 276, 277, 278, 279, 41, 42, 43, 44, 45, 46, 399, 400, 401, 402, 616, 617, 618, 619, 620, 621, 622, 623, 624, 625, 626, 627, 628, 644, 645, 646, 647, 648, 649, 650, 651, 652, 653, 654, 655, 656, 657] (by decide +kernel) (by decide +kernel)
set_option maxRecDepth 20000 in
theorem gL_law_X1_set : GoodIn wsL_law (wsV RL 64 RX1 yX1_set wsX1_set) := goodIn_app (goodIn_of _ (by decide +kernel)) ggL_law_X1_set
set_option maxRecDepth 20000 in
theorem ggL_law_X2_set : GoodIn wsL_law wsX2_set := goodIn_r _ [406, 407, 207, 52, 75, 76, 5, 77, 361, 362, 363, 364, 54, 365, 284, 629, 630, 631, 632, 633, 634, 635, 636, 637, 638, 639, 640, 641, 642, 643] (by decide +kernel) (by decide +kernel)
set_option maxRecDepth 20000 in
theorem gL_law_X2_set : GoodIn wsL_law (wsV RL 67 RX2 yX2_set wsX2_set) := goodIn_app (goodIn_of _ (by decide +kernel)) ggL_law_X2_set
set_option maxRecDepth 20000 in
theorem ggL_law_X1_undo : GoodIn wsL_law wsX1_undo := goodIn_r _ [411, 19, 16, 18, 272, 273, 274, 15, 275, 33, 34, 35, 36, 37, 38, 39, 40, 276, 277, 278, 279, 41, 42, 43, 44, 45, 46, 616, 617, 618, 619, 620, 621, 622, 623, 624, 625, 626, 627, 628, 644, 645, 646, 647, 648, 649, 650, 651, 652, 653, 654, 655, 656, 657] (by decide +kernel) (by decide +kernel)
set_option maxRecDepth 20000 in
theorem gL_law_X1_undo : GoodIn wsL_law (wsV RL 68 RX1 yX1_undo wsX1_undo) := goodIn_app (goodIn_of _ (by decide +kernel)) ggL_law_X1_undo
