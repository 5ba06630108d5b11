set_option maxRecDepth 20000 in
theorem ggL_law_X4_init : GoodIn wsL_law wsX4_init := goodIn_r _ [8, 9, 10, 11, 12, 13, 14, 15, 16, 17, 18, 19, 20, 21, 22, 23, 24, 25, 26, 27, 28, 29, 30, 31, 32, 33, 34, 35, 36, 37, 38, 39, 40, 41, 42, 43, 44, 45, 46, 47, 48, 49, 50, 51, 52, 53, 54, 55, 2, 56, 57, 58, 59, 60, 61, 62, 63, 64, 65, 66, 67, 68, 69, 70, 71, 72, 73, 74, 75, 76, 77, 78, 79, 80, 666, 667, 668, 669, 670, 671, 672, 673, 674, 675, 676, 637, 638, 639, 640, 641, 642, 643, 677, 678, 679, 680, 681, 682, 683, 684, 685, 686, 687, 688, 689, 690, 691, 692] (by decide +kernel) (by decide +kernel)
set_option maxRecDepth 20000 in
theorem gL_law_X4_init : GoodIn wsL_law (wsX4_init) := ggL_law_X4_init
set_option maxRecDepth 20000 in
theorem ggL_law_X5_init : GoodIn wsL_law wsX5_init := goodIn_r _ [83, 84, 10, 11, 29, 85, 86, 87, 88, 89, 90, 91, 92, 93, 94, 95, 96, 97, 98, 99, 644, 645, 646, 647, 648, 649, 650, 651, 652, 653, 654, 655, 656, 657, 658, 659, 660, 661, 662, 663, 664, 665] (by decide +kernel) (by decide +kernel)
set_option maxRecDepth 20000 in
theorem gL_law_X5_init : GoodIn wsL_law (wsX5_init) := ggL_law_X5_init
set_option maxRecDepth 20000 in
theorem ggL_law_X4_plank : GoodIn wsL_law wsX4_plank := goodIn_r _ [103, 15, 104, 105, 2, 106, 107, 108, 109, 110, 111, 112, 113, 114, 115, 116, 52, 53, 14, 54, 36, 37, 38, 45, 41, 55, 56, 57, 58, 59, 27, 60, 50, 61, 62, 63, 64, 65, 66, 637, 638, 639, 640, 641, 642, 643, 666, 667, 668, 669, 670, 671, 672, 673, 674, 675, 676, 692] (by decide +kernel) (by decide +kernel)
set_option maxRecDepth 20000 in
theorem gL_law_X4_plank : GoodIn wsL_law (wsV RL 13 RX4 yX4_plank wsX4_plank) := goodIn_app (goodIn_of _ (by decide +kernel)) ggL_law_X4_plank
set_option maxRecDepth 20000 in
theorem ggL_law_X5_plank : GoodIn wsL_law wsX5_plank := goodIn_r _ [120, 85, 86, 87, 90, 89, 121, 122, 5, 123, 124, 125, 126, 644, 645, 646, 647, 648, 649, 650, 651, 652, 653, 654, 655, 656, 657, 658, 659, 660, 661, 662, 663, 664, 665] (by decide +kernel) (by decide +kernel)
set_option maxRecDepth 20000 in
theorem gL_law_X5_plank : GoodIn wsL_law (wsV RL 17 RX5 yX5_plank wsX5_plank) := goodIn_app (goodIn_of _ (by decide +kernel)) ggL_law_X5_plank
set_option maxRecDepth 20000 in
theorem ggL_law_X4_trust : GoodIn wsL_law wsX4_trust := goodIn_r _ [130, 15, 131, 113, 114, 2, 115, 107, 108, 109, 132, 61, 62, 63, 64, 65, 66, 55, 56, 637, 638, 639, 640, 641, 642, 643, 666, 667, 668, 669, 670, 671, 672, 673, 674, 675, 676] (by decide +kernel) (by decide +kernel)
set_option maxRecDepth 20000 in
theorem gL_law_X4_trust : GoodIn wsL_law (wsV RL 18 RX4 yX4_trust wsX4_trust) := goodIn_app (goodIn_of _ (by decide +kernel)) ggL_law_X4_trust
set_option maxRecDepth 20000 in
theorem ggL_law_X5_trust : GoodIn wsL_law wsX5_trust := goodIn_r _ [136, 88, 121, 122, 5, 123, 124, 125, 126, 644, 645, 646, 647, 648, 649, 650, 651, 652, 653, 654, 655, 656, 657, 658, 659, 660, 661, 662, 663, 664, 665] (by decide +kernel) (by decide +kernel)
set_option maxRecDepth 20000 in
theorem gL_law_X5_trust : GoodIn wsL_law (wsV RL 22 RX5 yX5_trust wsX5_trust) := goodIn_app (goodIn_of _ (by decide +kernel)) ggL_law_X5_trust
set_option maxRecDepth 20000 in
theorem ggL_law_X4_know : GoodIn wsL_law wsX4_know := goodIn_r _ [140, 15, 141, 142, 113, 114, 2, 115, 107, 108, 109, 104, 105, 106, 132, 61, 62, 63, 64, 65, 66, 55, 56, 143, 58, 59, 27, 60, 50, 637, 638, 639, 640, 641, 642, 643, 666, 667, 668, 669, 670, 671, 672, 673, 674, 675, 676, 692] (by decide +kernel) (by decide +kernel)
set_option maxRecDepth 20000 in
theorem gL_law_X4_know : GoodIn wsL_law (wsV RL 23 RX4 yX4_know wsX4_know) := goodIn_app (goodIn_of _ (by decide +kernel)) ggL_law_X4_know
set_option maxRecDepth 20000 in
theorem ggL_law_X5_know : GoodIn wsL_law wsX5_know := goodIn_r _ [147, 89, 90, 121, 122, 5, 123, 124, 125, 126, 644, 645, 646, 647, 648, 649, 650, 651, 652, 653, 654, 655, 656, 657, 658, 659, 660, 661, 662, 663, 664, 665] (by decide +kernel) (by decide +kernel)
set_option maxRecDepth 20000 in
theorem gL_law_X5_know : GoodIn wsL_law (wsV RL 26 RX5 yX5_know wsX5_know) := goodIn_app (goodIn_of _ (by decide +kernel)) ggL_law_X5_know
set_option maxRecDepth 20000 in
theorem ggL_law_X4_fade : GoodIn wsL_law wsX4_fade := goodIn_r _ [151, 15, 152, 107, 108, 2, 109, 637, 638, 639, 640, 641, 642, 643, 666, 667, 668, 669, 670, 671, 672, 673, 674, 675, 676] (by decide +kernel) (by decide +kernel)
set_option maxRecDepth 20000 in
theorem gL_law_X4_fade : GoodIn wsL_law (wsV RL 27 RX4 yX4_fade wsX4_fade) := goodIn_app (goodIn_of _ (by decide +kernel)) ggL_law_X4_fade
set_option maxRecDepth 20000 in
theorem ggL_law_X5_fade : GoodIn wsL_law wsX5_fade := goodIn_r _ [156, 92, 124, 125, 5, 126, 644, 645, 646, 647, 648, 649, 650, 651, 652, 653, 654, 655, 656, 657, 658, 659, 660, 661, 662, 663, 664, 665] (by decide +kernel) (by decide +kernel)
set_option maxRecDepth 20000 in
theorem gL_law_X5_fade : GoodIn wsL_law (wsV RL 31 RX5 yX5_fade wsX5_fade) := goodIn_app (goodIn_of _ (by decide +kernel)) ggL_law_X5_fade
set_option maxRecDepth 20000 in
theorem ggL_law_X4_say : GoodIn wsL_law wsX4_say := goodIn_r _ [160, 20, 161, 107, 108, 2, 109, 162, 163, 164, 19, 165, 166, 70, 55, 56, 637, 638, 639, 640, 641, 642, 643, 677, 678, 679, 680, 681, 682, 683, 684] (by decide +kernel) (by decide +kernel)
set_option maxRecDepth 20000 in
theorem gL_law_X4_say : GoodIn wsL_law (wsV RL 32 RX4 yX4_say wsX4_say) := goodIn_app (goodIn_of _ (by decide +kernel)) ggL_law_X4_say
set_option maxRecDepth 20000 in
theorem ggL_law_X5_say : GoodIn wsL_law wsX5_say := goodIn_r _ [170, 171, 94, 124, 125, 5, 126, 644, 645, 646, 647, 648, 649, 650, 651, 652, 653, 654, 655, 656, 657, 658, 659, 660, 661, 662, 663, 664, 665] (by decide +kernel) (by decide +kernel)
set_option maxRecDepth 20000 in
theorem gL_law_X5_say : GoodIn wsL_law (wsV RL 35 RX5 yX5_say wsX5_say) := goodIn_app (goodIn_of _ (by decide +kernel)) ggL_law_X5_say
set_option maxRecDepth 20000 in
theorem ggL_law_X4_wipe : GoodIn wsL_law wsX4_wipe := goodIn_r _ [175, 20, 161, 176, 177, 178, 19, 179, 166, 637, 638, 639, 640, 641, 642, 643, 677, 678, 679, 680, 681, 682, 683, 684] (by decide +kernel) (by decide +kernel)
set_option maxRecDepth 20000 in
theorem gL_law_X4_wipe : GoodIn wsL_law (wsV RL 36 RX4 yX4_wipe wsX4_wipe) := goodIn_app (goodIn_of _ (by decide +kernel)) ggL_law_X4_wipe
set_option maxRecDepth 20000 in
theorem ggL_law_X5_wipe : GoodIn wsL_law wsX5_wipe := goodIn_r _ [183, 171, 644, 645, 646, 647, 648, 649, 650, 651, 652, 653, 654, 655, 656, 657, 658, 659, 660, 661, 662, 663, 664, 665] (by decide +kernel) (by decide +kernel)
set_option maxRecDepth 20000 in
theorem gL_law_X5_wipe : GoodIn wsL_law (wsV RL 40 RX5 yX5_wipe wsX5_wipe) := goodIn_app (goodIn_of _ (by decide +kernel)) ggL_law_X5_wipe
set_option maxRecDepth 20000 in
theorem ggL_law_X4_fault : GoodIn wsL_law wsX4_fault := goodIn_r _ [187, 20, 188, 189, 190, 19, 191, 192, 193, 166, 70, 64, 2, 65, 194, 195, 196, 197, 198, 199, 200, 201, 71, 55, 56, 202, 203, 204, 205, 72, 114, 115, 107, 108, 109, 206, 207, 208, 209, 73, 210, 211, 212, 213, 214, 215, 216, 217, 74, 105, 106, 637, 638, 639, 640, 641, 642, 643, 677, 678, 679, 680, 681, 682, 683, 684] (by decide +kernel) (by decide +kernel)
set_option maxRecDepth 20000 in
theorem gL_law_X4_fault : GoodIn wsL_law (wsV RL 41 RX4 yX4_fault wsX4_fault) := goodIn_app (goodIn_of _ (by decide +kernel)) ggL_law_X4_fault
set_option maxRecDepth 20000 in
theorem ggL_law_X5_fault : GoodIn wsL_law wsX5_fault := goodIn_r _ [221, 222, 223, 224, 5, 225, 171, 94, 124, 125, 126, 644, 645, 646, 647, 648, 649, 650, 651, 652, 653, 654, 655, 656, 657, 658, 659, 660, 661, 662, 663, 664, 665] (by decide +kernel) (by decide +kernel)
set_option maxRecDepth 20000 in
theorem gL_law_X5_fault : GoodIn wsL_law (wsV RL 44 RX5 yX5_fault wsX5_fault) := goodIn_app (goodIn_of _ (by decide +kernel)) ggL_law_X5_fault
set_option maxRecDepth 20000 in
theorem ggL_law_X4_vain : GoodIn wsL_law wsX4_vain := goodIn_r _ [229, 28, 15, 142, 20, 230, 231, 232, 233, 2, 234, 235, 188, 189, 190, 19, 191, 192, 193, 166, 70, 64, 65, 194, 195, 196, 197, 198, 199, 200, 201, 71, 55, 56, 202, 203, 204, 205, 72, 114, 115, 107, 108, 109, 206, 207, 208, 209, 73, 210, 211, 212, 213, 214, 215, 216, 217, 74, 105, 106, 236, 237, 238, 27, 239, 50, 240, 241, 63, 242, 243, 244, 245, 246, 247, 30, 248, 249, 250, 251, 252, 253, 254, 255, 256, 14, 257, 40, 38, 41, 46, 258, 259, 260, 261, 262, 263, 264, 265, 266, 267, 57, 58, 59, 60, 268, 269, 270, 271, 637, 638, 639, 640, 641, 642, 643, 666, 667, 668, 669, 670, 671, 672, 673, 674, 675, 676, 677, 678, 679, 680, 681, 682, 683, 684, 692] (by decide +kernel) (by decide +kernel)
set_option maxRecDepth 20000 in
theorem gL_law_X4_vain : GoodIn wsL_law (wsV RL 45 RX4 yX4_vain wsX4_vain) := goodIn_app (goodIn_of _ (by decide +kernel)) ggL_law_X4_vain
set_option maxRecDepth 20000 in
theorem ggL_law_X5_vain : GoodIn wsL_law wsX5_vain := goodIn_r _ [275, 276, 277, 278, 279, 5, 280, 222, 223, 224, 225, 171, 94, 124, 125, 126, 281, 282, 283, 284, 285, 286, 287, 288, 289, 290, 291, 292, 293, 95, 90, 294, 295, 296, 297, 298, 299, 300, 301, 88, 302, 303, 304, 305, 306, 307, 308, 87, 89, 92, 644, 645, 646, 647, 648, 649, 650, 651, 652, 653, 654, 655, 656, 657, 658, 659, 660, 661, 662, 663, 664, 665] (by decide +kernel) (by decide +kernel)
set_option maxRecDepth 20000 in
theorem gL_law_X5_vain : GoodIn wsL_law (wsV RL 48 RX5 yX5_vain wsX5_vain) := goodIn_app (goodIn_of _ (by decide +kernel)) ggL_law_X5_vain
set_option maxRecDepth 20000 in
theorem ggL_law_X4_done : GoodIn wsL_law wsX4_done := goodIn_r _ [312, 15, 142, 20, 230, 231, 232, 233, 2, 234, 235, 188, 189, 190, 19, 191, 192, 193, 166, 70, 64, 65, 194, 195, 196, 197, 198, 199, 200, 201, 71, 55, 56, 202, 203, 204, 205, 72, 114, 115, 107, 108, 109, 206, 207, 208, 209, 73, 210, 211, 212, 213, 214, 215, 216, 217, 74, 105, 106, 313, 314, 315, 316, 242, 243, 244, 245, 246, 247, 30, 248, 249, 63, 250, 251, 252, 27, 253, 50, 254, 255, 256, 14, 257, 40, 38, 41, 46, 258, 259, 260, 261, 262, 263, 264, 265, 266, 267, 57, 58, 59, 60, 268, 269, 270, 271, 176, 177, 178, 179, 637, 638, 639, 640, 641, 642, 643, 666, 667, 668, 669, 670, 671, 672, 673, 674, 675, 676, 677, 678, 679, 680, 681, 682, 683, 684, 692] (by decide +kernel) (by decide +kernel)
set_option maxRecDepth 20000 in
theorem gL_law_X4_done : GoodIn wsL_law (wsV RL 49 RX4 yX4_done wsX4_done) := goodIn_app (goodIn_of _ (by decide +kernel)) ggL_law_X4_done
set_option maxRecDepth 20000 in
theorem ggL_law_X5_done : GoodIn wsL_law wsX5_done := goodIn_r _ [320, 90, 95, 171, 289, 277, 278, 279, 5, 280, 222, 223, 224, 225, 94, 124, 125, 126, 281, 282, 283, 284, 285, 286, 287, 288, 276, 290, 291, 292, 293, 294, 295, 296, 297, 298, 299, 300, 301, 88, 302, 303, 304, 305, 306, 307, 308, 87, 89, 92, 644, 645, 646, 647, 648, 649, 650, 651, 652, 653, 654, 655, 656, 657, 658, 659, 660, 661, 662, 663, 664, 665] (by decide +kernel) (by decide +kernel)
set_option maxRecDepth 20000 in
theorem gL_law_X5_done : GoodIn wsL_law (wsV RL 52 RX5 yX5_done wsX5_done) := goodIn_app (goodIn_of _ (by decide +kernel)) ggL_law_X5_done
set_option maxRecDepth 20000 in
theorem ggL_law_X4_bears : GoodIn wsL_law wsX4_bears := goodIn_r _ [324, 15, 142, 104, 105, 2, 106, 107, 108, 109, 325, 326, 327, 113, 114, 115, 328, 329, 330, 331, 332, 333, 27, 334, 335, 263, 264, 265, 50, 336, 637, 638, 639, 640, 641, 642, 643, 666, 667, 668, 669, 670, 671, 672, 673, 674, 675, 676, 692] (by decide +kernel) (by decide +kernel)
set_option maxRecDepth 20000 in
theorem gL_law_X4_bears : GoodIn wsL_law (wsV RL 53 RX4 yX4_bears wsX4_bears) := goodIn_app (goodIn_of _ (by decide +kernel)) ggL_law_X4_bears
set_option maxRecDepth 20000 in
theorem ggL_law_X5_bears : GoodIn wsL_law wsX5_bears := goodIn_r _ [340, 121, 122, 5, 123, 124, 125, 126, 290, 291, 292, 293, 95, 90, 341, 342, 343, 344, 345, 346, 347, 348, 644, 645, 646, 647, 648, 649, 650, 651, 652, 653, 654, 655, 656, 657, 658, 659, 660, 661, 662, 663, 664, 665] (by decide +kernel) (by decide +kernel)
set_option maxRecDepth 20000 in
theorem gL_law_X5_bears : GoodIn wsL_law (wsV RL 57 RX5 yX5_bears wsX5_bears) := goodIn_app (goodIn_of _ (by decide +kernel)) ggL_law_X5_bears
set_option maxRecDepth 20000 in
theorem ggL_law_X4_behind : GoodIn wsL_law wsX4_behind := goodIn_r _ [352, 28, 15, 142, 104, 105, 2, 106, 107, 108, 109, 325, 326, 327, 113, 114, 115, 231, 232, 233, 234, 20, 235, 188, 189, 190, 19, 191, 192, 193, 166, 70, 64, 65, 194, 195, 196, 197, 198, 199, 200, 201, 71, 55, 56, 202, 203, 204, 205, 72, 206, 207, 208, 209, 73, 210, 211, 212, 213, 214, 215, 216, 217, 74, 236, 237, 238, 27, 239, 50, 240, 241, 63, 313, 314, 315, 316, 230, 242, 243, 244, 245, 246, 247, 30, 248, 249, 250, 251, 252, 253, 254, 255, 256, 14, 257, 40, 38, 41, 46, 258, 259, 260, 261, 262, 263, 264, 265, 266, 267, 57, 58, 59, 60, 268, 269, 270, 271, 328, 329, 330, 331, 332, 333, 334, 335, 336, 637, 638, 639, 640, 641, 642, 643, 666, 667, 668, 669, 670, 671, 672, 673, 674, 675, 676, 677, 678, 679, 680, 681, 682, 683, 684, 692] (by decide +kernel) (by decide +kernel)
set_option maxRecDepth 20000 in
theorem gL_law_X4_behind : GoodIn wsL_law (wsV RL 58 RX4 yX4_behind wsX4_behind) := goodIn_app (goodIn_of _ (by decide +kernel)) ggL_law_X4_behind
set_option maxRecDepth 20000 in
theorem ggL_law_X5_behind : GoodIn wsL_law wsX5_behind := goodIn_r _ [356, 121, 122, 5, 123, 124, 125, 126, 277, 278, 279, 280, 222, 223, 224, 225, 171, 94, 281, 282, 283, 284, 285, 286, 287, 288, 289, 276, 290, 291, 292, 293, 95, 90, 294, 295, 296, 297, 298, 299, 300, 301, 88, 302, 303, 304, 305, 306, 307, 308, 87, 89, 92, 341, 342, 343, 344, 345, 346, 347, 348, 644, 645, 646, 647, 648, 649, 650, 651, 652, 653, 654, 655, 656, 657, 658, 659, 660, 661, 662, 663, 664, 665] (by decide +kernel) (by decide +kernel)
set_option maxRecDepth 20000 in
theorem gL_law_X5_behind : GoodIn wsL_law (wsV RL 61 RX5 yX5_behind wsX5_behind) := goodIn_app (goodIn_of _ (by decide +kernel)) ggL_law_X5_behind
set_option maxRecDepth 20000 in
theorem ggL_law_X4_falls : GoodIn wsL_law wsX4_falls := goodIn_r _ [360, 31, 15, 142, 110, 111, 2, 112, 107, 108, 109, 361, 362, 363, 364, 365, 366, 367, 368, 369, 370, 66, 55, 56, 63, 64, 65, 371, 372, 373, 14, 374, 36, 37, 331, 332, 333, 27, 334, 335, 263, 264, 265, 50, 637, 638, 639, 640, 641, 642, 643, 666, 667, 668, 669, 670, 671, 672, 673, 674, 675, 676, 692] (by decide +kernel) (by decide +kernel)
set_option maxRecDepth 20000 in
theorem gL_law_X4_falls : GoodIn wsL_law (wsV RL 62 RX4 yX4_falls wsX4_falls) := goodIn_app (goodIn_of _ (by decide +kernel)) ggL_law_X4_falls
set_option maxRecDepth 20000 in
theorem ggL_law_X5_falls : GoodIn wsL_law wsX5_falls := goodIn_r _ [378, 121, 122, 5, 123, 124, 125, 126, 379, 380, 381, 290, 291, 292, 293, 95, 90, 382, 383, 384, 385, 85, 86, 345, 346, 347, 348, 644, 645, 646, 647, 648, 649, 650, 651, 652, 653, 654, 655, 656, 657, 658, 659, 660, 661, 662, 663, 664, 665] (by decide +kernel) (by decide +kernel)
set_option maxRecDepth 20000 in
theorem gL_law_X5_falls : GoodIn wsL_law (wsV RL 66 RX5 yX5_falls wsX5_falls) := goodIn_app (goodIn_of _ (by decide +kernel)) ggL_law_X5_falls
set_option maxRecDepth 20000 in
theorem ggL_law_X4_tellings : GoodIn wsL_law wsX4_tellings := goodIn_r _ [389, 24, 15, 390, 110, 111, 2, 112, 107, 108, 109, 361, 362, 363, 391, 392, 393, 394, 28, 142, 236, 237, 238, 27, 239, 50, 240, 241, 63, 64, 65, 331, 332, 333, 334, 335, 263, 264, 265, 395, 396, 397, 398, 399, 259, 260, 14, 261, 38, 262, 400, 401, 402, 403, 254, 255, 256, 257, 40, 41, 46, 258, 266, 267, 57, 58, 59, 60, 55, 56, 404, 405, 406, 23, 407, 78, 408, 409, 410, 411, 412, 413, 414, 415, 416, 417, 418, 419, 420, 421, 422, 423, 424, 425, 426, 427, 79, 80, 428, 429, 430, 431, 432, 433, 434, 435, 436, 437, 372, 373, 374, 36, 37, 438, 439, 440, 441, 442, 637, 638, 639, 640, 641, 642, 643, 685, 686, 687, 688, 689, 690, 691, 666, 667, 668, 669, 670, 671, 672, 673, 674, 675, 676, 692] (by decide +kernel) (by decide +kernel)
set_option maxRecDepth 20000 in
theorem gL_law_X4_tellings : GoodIn wsL_law (wsV RL 67 RX4 yX4_tellings wsX4_tellings) := goodIn_app (goodIn_of _ (by decide +kernel)) ggL_law_X4_tellings
set_option maxRecDepth 20000 in
theorem ggL_law_X5_tellings : GoodIn wsL_law wsX5_tellings := goodIn_r _ [446, 447, 448, 449, 121, 122, 5, 123, 124, 125, 126, 290, 291, 292, 293, 95, 90, 450, 451, 452, 453, 96, 454, 345, 346, 347, 348, 455, 456, 457, 458, 87, 89, 88, 302, 303, 304, 459, 460, 461, 462, 379, 380, 381, 463, 464, 465, 466, 382, 383, 384, 385, 85, 86, 644, 645, 646, 647, 648, 649, 650, 651, 652, 653, 654, 655, 656, 657, 658, 659, 660, 661, 662, 663, 664, 665] (by decide +kernel) (by decide +kernel)
set_option maxRecDepth 20000 in
theorem gL_law_X5_tellings : GoodIn wsL_law (wsV RL 70 RX5 yX5_tellings wsX5_tellings) := goodIn_app (goodIn_of _ (by decide +kernel)) ggL_law_X5_tellings
set_option maxRecDepth 20000 in
theorem ggL_law_X4_stands : GoodIn wsL_law wsX4_stands := goodIn_r _ [470, 110, 111, 2, 112, 107, 108, 109, 361, 362, 363, 471, 472, 473, 474, 24, 15, 142, 331, 332, 333, 27, 334, 335, 263, 264, 265, 50, 404, 405, 406, 23, 407, 78, 55, 56, 408, 409, 410, 411, 412, 413, 414, 415, 416, 417, 418, 419, 420, 421, 422, 423, 424, 425, 426, 427, 79, 80, 428, 429, 430, 431, 240, 241, 63, 64, 65, 432, 433, 434, 435, 436, 437, 372, 373, 14, 374, 36, 37, 438, 637, 638, 639, 640, 641, 642, 643, 666, 667, 668, 669, 670, 671, 672, 673, 674, 675, 676, 692, 685, 686, 687, 688, 689, 690, 691] (by decide +kernel) (by decide +kernel)
set_option maxRecDepth 20000 in
theorem gL_law_X4_stands : GoodIn wsL_law (wsV RL 71 RX4 yX4_stands wsX4_stands) := goodIn_app (goodIn_of _ (by decide +kernel)) ggL_law_X4_stands
set_option maxRecDepth 20000 in
theorem ggL_law_X5_stands : GoodIn wsL_law wsX5_stands := goodIn_r _ [478, 96, 454, 121, 122, 5, 123, 124, 125, 126, 290, 291, 292, 293, 95, 90, 345, 346, 347, 348, 459, 460, 461, 462, 447, 448, 449, 379, 380, 381, 463, 464, 465, 466, 382, 383, 384, 385, 85, 86, 294, 295, 296, 297, 644, 645, 646, 647, 648, 649, 650, 651, 652, 653, 654, 655, 656, 657, 658, 659, 660, 661, 662, 663, 664, 665] (by decide +kernel) (by decide +kernel)
set_option maxRecDepth 20000 in
theorem gL_law_X5_stands : GoodIn wsL_law (wsV RL 75 RX5 yX5_stands wsX5_stands) := goodIn_app (goodIn_of _ (by decide +kernel)) ggL_law_X5_stands
set_option maxRecDepth 20000 in
theorem ggL_law_X4_word : GoodIn wsL_law wsX4_word := goodIn_r _ [482, 28, 15, 142, 364, 365, 2, 366, 236, 237, 238, 27, 239, 50, 240, 241, 63, 64, 65, 483, 484, 485, 486, 268, 269, 270, 14, 271, 40, 266, 267, 262, 263, 264, 265, 57, 58, 59, 60, 55, 56, 637, 638, 639, 640, 641, 642, 643, 666, 667, 668, 669, 670, 671, 672, 673, 674, 675, 676, 692] (by decide +kernel) (by decide +kernel)
set_option maxRecDepth 20000 in
theorem gL_law_X4_word : GoodIn wsL_law (wsV RL 76 RX4 yX4_word wsX4_word) := goodIn_app (goodIn_of _ (by decide +kernel)) ggL_law_X4_word
set_option maxRecDepth 20000 in
theorem ggL_law_X5_word : GoodIn wsL_law wsX5_word := goodIn_r _ [490, 124, 125, 5, 126, 290, 291, 292, 293, 95, 90, 298, 299, 300, 301, 88, 302, 303, 304, 644, 645, 646, 647, 648, 649, 650, 651, 652, 653, 654, 655, 656, 657, 658, 659, 660, 661, 662, 663, 664, 665] (by decide +kernel) (by decide +kernel)
set_option maxRecDepth 20000 in
theorem gL_law_X5_word : GoodIn wsL_law (wsV RL 79 RX5 yX5_word wsX5_word) := goodIn_app (goodIn_of _ (by decide +kernel)) ggL_law_X5_word
set_option maxRecDepth 20000 in
theorem ggL_law_X4_rumour : GoodIn wsL_law wsX4_rumour := goodIn_r _ [494, 28, 15, 142, 104, 105, 2, 106, 107, 108, 109, 361, 362, 363, 236, 237, 238, 27, 239, 50, 240, 241, 63, 64, 65, 331, 332, 333, 334, 335, 263, 264, 265, 395, 396, 397, 398, 399, 259, 260, 14, 261, 38, 262, 400, 401, 402, 403, 254, 255, 256, 257, 40, 41, 46, 258, 266, 267, 57, 58, 59, 60, 55, 56, 250, 251, 252, 253, 637, 638, 639, 640, 641, 642, 643, 666, 667, 668, 669, 670, 671, 672, 673, 674, 675, 676, 692] (by decide +kernel) (by decide +kernel)
set_option maxRecDepth 20000 in
theorem gL_law_X4_rumour : GoodIn wsL_law (wsV RL 80 RX4 yX4_rumour wsX4_rumour) := goodIn_app (goodIn_of _ (by decide +kernel)) ggL_law_X4_rumour
set_option maxRecDepth 20000 in
theorem ggL_law_X5_rumour : GoodIn wsL_law wsX5_rumour := goodIn_r _ [498, 87, 95, 289, 121, 122, 5, 123, 124, 125, 126, 290, 291, 292, 293, 90, 345, 346, 347, 348, 302, 303, 304, 305, 306, 307, 308, 88, 89, 92, 294, 295, 296, 297, 644, 645, 646, 647, 648, 649, 650, 651, 652, 653, 654, 655, 656, 657, 658, 659, 660, 661, 662, 663, 664, 665] (by decide +kernel) (by decide +kernel)
set_option maxRecDepth 20000 in
theorem gL_law_X5_rumour : GoodIn wsL_law (wsV RL 83 RX5 yX5_rumour wsX5_rumour) := goodIn_app (goodIn_of _ (by decide +kernel)) ggL_law_X5_rumour
set_option maxRecDepth 20000 in
theorem ggL_law_X4_odds : GoodIn wsL_law wsX4_odds := goodIn_r _ [502, 28, 15, 142, 104, 105, 2, 106, 107, 108, 109, 113, 114, 115, 364, 365, 366, 236, 237, 238, 27, 239, 50, 240, 241, 63, 64, 65, 400, 401, 402, 403, 254, 255, 256, 14, 257, 40, 38, 41, 46, 258, 259, 260, 261, 262, 263, 264, 265, 266, 267, 57, 58, 59, 60, 55, 56, 483, 484, 485, 486, 268, 269, 270, 271, 331, 332, 333, 334, 335, 637, 638, 639, 640, 641, 642, 643, 666, 667, 668, 669, 670, 671, 672, 673, 674, 675, 676, 692] (by decide +kernel) (by decide +kernel)
set_option maxRecDepth 20000 in
theorem gL_law_X4_odds : GoodIn wsL_law (wsV RL 84 RX4 yX4_odds wsX4_odds) := goodIn_app (goodIn_of _ (by decide +kernel)) ggL_law_X4_odds
set_option maxRecDepth 20000 in
theorem ggL_law_X5_odds : GoodIn wsL_law wsX5_odds := goodIn_r _ [506, 121, 122, 5, 123, 124, 125, 126, 290, 291, 292, 293, 95, 90, 507, 508, 509, 510, 289, 298, 299, 300, 301, 88, 302, 303, 304, 305, 306, 307, 308, 87, 89, 92, 345, 346, 347, 348, 644, 645, 646, 647, 648, 649, 650, 651, 652, 653, 654, 655, 656, 657, 658, 659, 660, 661, 662, 663, 664, 665] (by decide +kernel) (by decide +kernel)
set_option maxRecDepth 20000 in
theorem gL_law_X5_odds : GoodIn wsL_law (wsV RL 87 RX5 yX5_odds wsX5_odds) := goodIn_app (goodIn_of _ (by decide +kernel)) ggL_law_X5_odds
set_option maxRecDepth 20000 in
theorem ggL_law_X4_tenths : GoodIn wsL_law wsX4_tenths := goodIn_r _ [514, 15, 515, 104, 105, 2, 106, 107, 108, 109, 63, 64, 65, 66, 55, 56, 637, 638, 639, 640, 641, 642, 643, 666, 667, 668, 669, 670, 671, 672, 673, 674, 675, 676] (by decide +kernel) (by decide +kernel)
set_option maxRecDepth 20000 in
theorem gL_law_X4_tenths : GoodIn wsL_law (wsV RL 88 RX4 yX4_tenths wsX4_tenths) := goodIn_app (goodIn_of _ (by decide +kernel)) ggL_law_X4_tenths
set_option maxRecDepth 20000 in
theorem ggL_law_X5_tenths : GoodIn wsL_law wsX5_tenths := goodIn_r _ [519, 91, 121, 122, 5, 123, 124, 125, 126, 644, 645, 646, 647, 648, 649, 650, 651, 652, 653, 654, 655, 656, 657, 658, 659, 660, 661, 662, 663, 664, 665] (by decide +kernel) (by decide +kernel)
set_option maxRecDepth 20000 in
theorem gL_law_X5_tenths : GoodIn wsL_law (wsV RL 91 RX5 yX5_tenths wsX5_tenths) := goodIn_app (goodIn_of _ (by decide +kernel)) ggL_law_X5_tenths
set_option maxRecDepth 20000 in
theorem ggL_law_X4_safe : GoodIn wsL_law wsX4_safe := goodIn_r _ [523, 24, 110, 111, 2, 112, 107, 108, 109, 524, 525, 526, 527, 15, 515, 63, 64, 65, 404, 405, 406, 23, 407, 78, 55, 56, 528, 529, 530, 531, 412, 532, 413, 414, 415, 416, 417, 418, 419, 420, 421, 422, 423, 424, 425, 426, 427, 79, 80, 428, 429, 430, 431, 240, 241, 432, 433, 434, 435, 436, 437, 372, 373, 14, 374, 36, 37, 439, 440, 441, 442, 637, 638, 639, 640, 641, 642, 643, 666, 667, 668, 669, 670, 671, 672, 673, 674, 675, 676, 685, 686, 687, 688, 689, 690, 691] (by decide +kernel) (by decide +kernel)
set_option maxRecDepth 20000 in
theorem gL_law_X4_safe : GoodIn wsL_law (wsV RL 92 RX4 yX4_safe wsX4_safe) := goodIn_app (goodIn_of _ (by decide +kernel)) ggL_law_X4_safe
set_option maxRecDepth 20000 in
theorem ggL_law_X5_safe : GoodIn wsL_law wsX5_safe := goodIn_r _ [536, 448, 449, 121, 122, 5, 123, 124, 125, 126, 537, 538, 539, 540, 91, 541, 379, 380, 381, 463, 464, 465, 466, 382, 383, 384, 385, 85, 86, 644, 645, 646, 647, 648, 649, 650, 651, 652, 653, 654, 655, 656, 657, 658, 659, 660, 661, 662, 663, 664, 665] (by decide +kernel) (by decide +kernel)
set_option maxRecDepth 20000 in
theorem gL_law_X5_safe : GoodIn wsL_law (wsV RL 95 RX5 yX5_safe wsX5_safe) := goodIn_app (goodIn_of _ (by decide +kernel)) ggL_law_X5_safe
set_option maxRecDepth 20000 in
theorem ggL_law_X4_chance : GoodIn wsL_law wsX4_chance := goodIn_r _ [545, 546, 547, 24, 390, 548, 110, 111, 2, 112, 107, 108, 109, 364, 365, 366, 524, 525, 526, 527, 15, 515, 63, 64, 65, 404, 405, 406, 23, 407, 78, 55, 56, 528, 529, 530, 531, 412, 532, 413, 414, 415, 416, 417, 418, 419, 420, 421, 422, 423, 424, 425, 426, 427, 79, 80, 428, 429, 430, 431, 240, 241, 432, 433, 434, 435, 436, 437, 372, 373, 14, 374, 36, 37, 438, 549, 550, 551, 637, 638, 639, 640, 641, 642, 643, 685, 686, 687, 688, 689, 690, 691, 666, 667, 668, 669, 670, 671, 672, 673, 674, 675, 676] (by decide +kernel) (by decide +kernel)
set_option maxRecDepth 20000 in
theorem gL_law_X4_chance : GoodIn wsL_law (wsV RL 96 RX4 yX4_chance wsX4_chance) := goodIn_app (goodIn_of _ (by decide +kernel)) ggL_law_X4_chance
set_option maxRecDepth 20000 in
theorem ggL_law_X5_chance : GoodIn wsL_law wsX5_chance := goodIn_r _ [555, 556, 557, 541, 448, 121, 122, 5, 123, 124, 125, 126, 537, 538, 539, 540, 91, 449, 379, 380, 381, 463, 464, 465, 466, 382, 383, 384, 385, 85, 86, 644, 645, 646, 647, 648, 649, 650, 651, 652, 653, 654, 655, 656, 657, 658, 659, 660, 661, 662, 663, 664, 665] (by decide +kernel) (by decide +kernel)
set_option maxRecDepth 20000 in
theorem gL_law_X5_chance : GoodIn wsL_law (wsV RL 100 RX5 yX5_chance wsX5_chance) := goodIn_app (goodIn_of _ (by decide +kernel)) ggL_law_X5_chance
set_option maxRecDepth 20000 in
theorem ggL_law_X4_seen : GoodIn wsL_law wsX4_seen := goodIn_r _ [561, 15, 562, 563, 564, 104, 105, 2, 106, 107, 108, 109, 66, 55, 56, 637, 638, 639, 640, 641, 642, 643, 666, 667, 668, 669, 670, 671, 672, 673, 674, 675, 676] (by decide +kernel) (by decide +kernel)
set_option maxRecDepth 20000 in
theorem gL_law_X4_seen : GoodIn wsL_law (wsV RL 101 RX4 yX4_seen wsX4_seen) := goodIn_app (goodIn_of _ (by decide +kernel)) ggL_law_X4_seen
set_option maxRecDepth 20000 in
theorem ggL_law_X5_seen : GoodIn wsL_law wsX5_seen := goodIn_r _ [568, 569, 93, 121, 122, 5, 123, 124, 125, 126, 644, 645, 646, 647, 648, 649, 650, 651, 652, 653, 654, 655, 656, 657, 658, 659, 660, 661, 662, 663, 664, 665] (by decide +kernel) (by decide +kernel)
set_option maxRecDepth 20000 in
theorem gL_law_X5_seen : GoodIn wsL_law (wsV RL 104 RX5 yX5_seen wsX5_seen) := goodIn_app (goodIn_of _ (by decide +kernel)) ggL_law_X5_seen
set_option maxRecDepth 20000 in
theorem ggL_law_X4_forget : GoodIn wsL_law wsX4_forget := goodIn_r _ [573, 15, 562, 637, 638, 639, 640, 641, 642, 643, 666, 667, 668, 669, 670, 671, 672, 673, 674, 675, 676] (by decide +kernel) (by decide +kernel)
set_option maxRecDepth 20000 in
theorem gL_law_X4_forget : GoodIn wsL_law (wsV RL 105 RX4 yX4_forget wsX4_forget) := goodIn_app (goodIn_of _ (by decide +kernel)) ggL_law_X4_forget
set_option maxRecDepth 20000 in
theorem ggL_law_X5_forget : GoodIn wsL_law wsX5_forget := goodIn_r _ [577, 569, 644, 645, 646, 647, 648, 649, 650, 651, 652, 653, 654, 655, 656, 657, 658, 659, 660, 661, 662, 663, 664, 665] (by decide +kernel) (by decide +kernel)
set_option maxRecDepth 20000 in
theorem gL_law_X5_forget : GoodIn wsL_law (wsV RL 108 RX5 yX5_forget wsX5_forget) := goodIn_app (goodIn_of _ (by decide +kernel)) ggL_law_X5_forget
set_option maxRecDepth 20000 in
theorem ggL_law_X4_filled : GoodIn wsL_law wsX4_filled := goodIn_r _ [581, 20, 235, 30, 188, 189, 190, 19, 191, 192, 193, 166, 70, 64, 2, 65, 194, 195, 196, 197, 198, 199, 200, 201, 71, 55, 56, 202, 203, 204, 205, 72, 114, 115, 107, 108, 109, 206, 207, 208, 209, 73, 210, 211, 212, 213, 214, 215, 216, 217, 74, 105, 106, 582, 583, 584, 585, 66, 586, 587, 588, 589, 28, 15, 142, 230, 562, 563, 564, 236, 237, 238, 27, 239, 50, 240, 241, 63, 242, 243, 244, 245, 246, 247, 248, 249, 250, 251, 252, 253, 254, 255, 256, 14, 257, 40, 38, 41, 46, 258, 259, 260, 261, 262, 263, 264, 265, 266, 267, 57, 58, 59, 60, 268, 269, 270, 271, 331, 332, 333, 334, 335, 637, 638, 639, 640, 641, 642, 643, 677, 678, 679, 680, 681, 682, 683, 684, 666, 667, 668, 669, 670, 671, 672, 673, 674, 675, 676, 692] (by decide +kernel) (by decide +kernel)
set_option maxRecDepth 20000 in
theorem gL_law_X4_filled : GoodIn wsL_law (wsV RL 109 RX4 yX4_filled wsX4_filled) := goodIn_app (goodIn_of _ (by decide +kernel)) ggL_law_X4_filled
set_option maxRecDepth 20000 in
theorem ggL_law_X5_filled : GoodIn wsL_law wsX5_filled := goodIn_r _ [593, 569, 93, 222, 223, 224, 5, 225, 171, 94, 124, 125, 126, 281, 282, 283, 284, 379, 380, 381, 285, 286, 287, 288, 289, 276, 290, 291, 292, 293, 95, 90, 294, 295, 296, 297, 298, 299, 300, 301, 88, 302, 303, 304, 305, 306, 307, 308, 87, 89, 92, 345, 346, 347, 348, 644, 645, 646, 647, 648, 649, 650, 651, 652, 653, 654, 655, 656, 657, 658, 659, 660, 661, 662, 663, 664, 665] (by decide +kernel) (by decide +kernel)
set_option maxRecDepth 20000 in
theorem gL_law_X5_filled : GoodIn wsL_law (wsV RL 112 RX5 yX5_filled wsX5_filled) := goodIn_app (goodIn_of _ (by decide +kernel)) ggL_law_X5_filled
set_option maxRecDepth 20000 in
theorem ggL_law_X4_year : GoodIn wsL_law wsX4_year := goodIn_r _ [597, 28, 15, 142, 598, 104, 105, 2, 106, 107, 108, 109, 236, 237, 238, 27, 239, 50, 240, 241, 63, 64, 65, 254, 255, 256, 14, 257, 40, 38, 41, 46, 258, 259, 260, 261, 262, 263, 264, 265, 266, 267, 57, 58, 59, 60, 55, 56, 250, 251, 252, 253, 331, 332, 333, 334, 335, 637, 638, 639, 640, 641, 642, 643, 666, 667, 668, 669, 670, 671, 672, 673, 674, 675, 676, 692] (by decide +kernel) (by decide +kernel)
set_option maxRecDepth 20000 in
theorem gL_law_X4_year : GoodIn wsL_law (wsV RL 113 RX4 yX4_year wsX4_year) := goodIn_app (goodIn_of _ (by decide +kernel)) ggL_law_X4_year
set_option maxRecDepth 20000 in
theorem ggL_law_X5_year : GoodIn wsL_law wsX5_year := goodIn_r _ [602, 603, 124, 125, 5, 126, 290, 291, 292, 293, 95, 90, 305, 306, 307, 308, 87, 88, 89, 92, 302, 303, 304, 294, 295, 296, 297, 345, 346, 347, 348, 644, 645, 646, 647, 648, 649, 650, 651, 652, 653, 654, 655, 656, 657, 658, 659, 660, 661, 662, 663, 664, 665] (by decide +kernel) (by decide +kernel)
set_option maxRecDepth 20000 in
theorem gL_law_X5_year : GoodIn wsL_law (wsV RL 116 RX5 yX5_year wsX5_year) := goodIn_app (goodIn_of _ (by decide +kernel)) ggL_law_X5_year
set_option maxRecDepth 20000 in
theorem ggL_law_X4_image : GoodIn wsL_law wsX4_image := goodIn_r _ [607, 16, 12, 13, 14, 15, 32, 33, 34, 35, 10, 11, 29, 36, 37, 38, 39, 40, 41, 42, 43, 44, 26, 27, 45, 46, 47, 48, 49, 50, 51, 52, 53, 54, 55, 2, 56, 57, 58, 59, 60, 61, 62, 63, 64, 65, 66, 608, 609, 610, 611, 612, 240, 241, 613, 237, 238, 239, 637, 638, 639, 640, 641, 642, 643, 666, 667, 668, 669, 670, 671, 672, 673, 674, 675, 676, 692] (by decide +kernel) (by decide +kernel)
set_option maxRecDepth 20000 in
theorem gL_law_X4_image : GoodIn wsL_law (wsV RL 117 RX4 yX4_image wsX4_image) := goodIn_app (goodIn_of _ (by decide +kernel)) ggL_law_X4_image
set_option maxRecDepth 20000 in
theorem ggL_law_X5_image : GoodIn wsL_law wsX5_image := goodIn_r _ [617, 97, 90, 85, 86, 87, 88, 89, 91, 93, 92, 569, 99, 124, 125, 5, 126, 644, 645, 646, 647, 648, 649, 650, 651, 652, 653, 654, 655, 656, 657, 658, 659, 660, 661, 662, 663, 664, 665] (by decide +kernel) (by decide +kernel)
set_option maxRecDepth 20000 in
theorem gL_law_X5_image : GoodIn wsL_law (wsV RL 120 RX5 yX5_image wsX5_image) := goodIn_app (goodIn_of _ (by decide +kernel)) ggL_law_X5_image
set_option maxRecDepth 20000 in
theorem ggL_law_X4_restore : GoodIn wsL_law wsX4_restore := goodIn_r _ [621, 16, 15, 608, 609, 610, 14, 611, 36, 37, 38, 39, 40, 41, 42, 43, 45, 46, 612, 240, 2, 241, 63, 64, 65, 613, 237, 238, 27, 239, 50, 637, 638, 639, 640, 641, 642, 643, 666, 667, 668, 669, 670, 671, 672, 673, 674, 675, 676, 692] (by decide +kernel) (by decide +kernel)
set_option maxRecDepth 20000 in
theorem gL_law_X4_restore : GoodIn wsL_law (wsV RL 121 RX4 yX4_restore wsX4_restore) := goodIn_app (goodIn_of _ (by decide +kernel)) ggL_law_X4_restore
set_option maxRecDepth 20000 in
theorem ggL_law_X5_restore : GoodIn wsL_law wsX5_restore := goodIn_r _ [625, 99, 90, 97, 85, 86, 87, 88, 89, 91, 93, 92, 569, 124, 125, 5, 126, 644, 645, 646, 647, 648, 649, 650, 651, 652, 653, 654, 655, 656, 657, 658, 659, 660, 661, 662, 663, 664, 665] (by decide +kernel) (by decide +kernel)
set_option maxRecDepth 20000 in
theorem gL_law_X5_restore : GoodIn wsL_law (wsV RL 124 RX5 yX5_restore wsX5_restore) := goodIn_app (goodIn_of _ (by decide +kernel)) ggL_law_X5_restore
set_option maxRecDepth 20000 in
theorem ggL_law_X4_told : GoodIn wsL_law wsX4_told := goodIn_r _ [629, 20, 161, 15, 152, 562, 131, 141, 630, 631, 632, 515, 63, 64, 2, 65, 637, 638, 639, 640, 641, 642, 643, 677, 678, 679, 680, 681, 682, 683, 684, 666, 667, 668, 669, 670, 671, 672, 673, 674, 675, 676] (by decide +kernel) (by decide +kernel)
set_option maxRecDepth 20000 in
theorem gL_law_X4_told : GoodIn wsL_law (wsV RL 125 RX4 yX4_told wsX4_told) := goodIn_app (goodIn_of _ (by decide +kernel)) ggL_law_X4_told
set_option maxRecDepth 20000 in
theorem ggL_law_X5_told : GoodIn wsL_law wsX5_told := goodIn_r _ [636, 88, 89, 87, 85, 86, 91, 171, 92, 569, 121, 122, 5, 123, 124, 125, 126, 644, 645, 646, 647, 648, 649, 650, 651, 652, 653, 654, 655, 656, 657, 658, 659, 660, 661, 662, 663, 664, 665] (by decide +kernel) (by decide +kernel)
set_option maxRecDepth 20000 in
theorem gL_law_X5_told : GoodIn wsL_law (wsV RL 128 RX5 yX5_told wsX5_told) := goodIn_app (goodIn_of _ (by decide +kernel)) ggL_law_X5_told
