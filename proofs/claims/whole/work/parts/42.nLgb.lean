set_option maxRecDepth 20000 in
theorem ggL_law_L_reset : GoodIn wsL_law wsL_reset := goodIn_ca (goodIn_r _ [281, 110, 282, 283, 284, 2, 285, 118, 119, 120, 121, 122, 123, 124, 125, 126, 127, 128, 129, 130, 131, 132, 24, 25, 286, 287, 288, 23, 289, 54, 274, 51, 52, 290, 291, 292, 293, 294, 295, 296, 56, 297, 298, 299, 721, 722, 723, 724, 725, 726, 727, 728, 729, 765, 766, 767, 768, 769, 770, 771, 772, 773, 774, 775, 776, 783, 784, 785, 786, 787, 788, 789, 790] (by decide +kernel) (by decide +kernel)) (goodIn_sub (fun _ h => List.mem_append_left _ (List.mem_append_right _ h)) (by decide +kernel))
set_option maxRecDepth 20000 in
theorem gL_law_L_reset : GoodIn wsL_law (va_wsS RL 118 yL_reset wsL_reset) := goodIn_app (goodIn_of _ (by decide +kernel)) ggL_law_L_reset
set_option maxRecDepth 20000 in
theorem ggL_law_X5_reset : GoodIn wsL_law wsX5_reset := goodIn_r _ [303, 156, 103, 89, 95, 96, 149, 150, 5, 151, 304, 305, 306, 307, 308, 309, 310, 311, 87, 88, 730, 731, 732, 733, 734, 735, 736, 737, 738, 739, 740, 741, 742, 743, 744, 745, 746, 747, 748, 749, 750, 751, 752, 753, 754, 755, 756, 757, 758, 759, 760, 761, 762, 763, 764] (by decide +kernel) (by decide +kernel)
set_option maxRecDepth 20000 in
theorem gL_law_X5_reset : GoodIn wsL_law (wsV RL 120 RX5 yX5_reset wsX5_reset) := goodIn_app (goodIn_of _ (by decide +kernel)) ggL_law_X5_reset
set_option maxRecDepth 20000 in
theorem ggL_law_L_wish : GoodIn wsL_law wsL_wish := goodIn_ca (goodIn_r _ [314, 110, 315, 316, 317, 2, 318, 319, 320, 118, 119, 120, 121, 122, 123, 124, 125, 126, 127, 128, 129, 130, 131, 132, 24, 25, 201, 202, 203, 765, 766, 767, 768, 769, 770, 771, 772, 773, 774, 775, 776, 721, 722, 723, 724, 725, 726, 727, 728, 729] (by decide +kernel) (by decide +kernel)) (goodIn_sub (fun _ h => List.mem_append_left _ (List.mem_append_right _ h)) (by decide +kernel))
set_option maxRecDepth 20000 in
theorem gL_law_L_wish : GoodIn wsL_law (va_wsS RL 121 yL_wish wsL_wish) := goodIn_app (goodIn_of _ (by decide +kernel)) ggL_law_L_wish
set_option maxRecDepth 20000 in
theorem ggL_law_X5_wish : GoodIn wsL_law wsX5_wish := goodIn_r _ [324, 156, 98, 99, 149, 150, 5, 151, 212, 213, 214, 730, 731, 732, 733, 734, 735, 736, 737, 738, 739, 740, 741, 742, 743, 744, 745, 746, 747, 748, 749, 750, 751, 752, 753, 754, 755, 756, 757, 758, 759, 760, 761, 762, 763, 764] (by decide +kernel) (by decide +kernel)
set_option maxRecDepth 20000 in
theorem gL_law_X5_wish : GoodIn wsL_law (wsV RL 123 RX5 yX5_wish wsX5_wish) := goodIn_app (goodIn_of _ (by decide +kernel)) ggL_law_X5_wish
set_option maxRecDepth 20000 in
theorem ggL_law_L_order : GoodIn wsL_law wsL_order := goodIn_ca (goodIn_r _ [327, 110, 328, 329, 330, 2, 331, 332, 118, 119, 120, 121, 122, 123, 124, 125, 126, 127, 128, 129, 130, 131, 132, 24, 25, 765, 766, 767, 768, 769, 770, 771, 772, 773, 774, 775, 776, 721, 722, 723, 724, 725, 726, 727, 728, 729] (by decide +kernel) (by decide +kernel)) (goodIn_sub (fun _ h => List.mem_append_left _ (List.mem_append_right _ h)) (by decide +kernel))
set_option maxRecDepth 20000 in
theorem gL_law_L_order : GoodIn wsL_law (va_wsS RL 124 yL_order wsL_order) := goodIn_app (goodIn_of _ (by decide +kernel)) ggL_law_L_order
set_option maxRecDepth 20000 in
theorem ggL_law_X5_order : GoodIn wsL_law wsX5_order := goodIn_r _ [336, 156, 97, 149, 150, 5, 151, 730, 731, 732, 733, 734, 735, 736, 737, 738, 739, 740, 741, 742, 743, 744, 745, 746, 747, 748, 749, 750, 751, 752, 753, 754, 755, 756, 757, 758, 759, 760, 761, 762, 763, 764] (by decide +kernel) (by decide +kernel)
set_option maxRecDepth 20000 in
theorem gL_law_X5_order : GoodIn wsL_law (wsV RL 127 RX5 yX5_order wsX5_order) := goodIn_app (goodIn_of _ (by decide +kernel)) ggL_law_X5_order
set_option maxRecDepth 20000 in
theorem ggL_law_L_limit : GoodIn wsL_law wsL_limit := goodIn_ca (goodIn_r _ [339, 110, 340, 341, 342, 2, 343, 19, 20, 121, 122, 123, 124, 125, 126, 127, 128, 721, 722, 723, 724, 725, 726, 727, 728, 729] (by decide +kernel) (by decide +kernel)) (goodIn_sub (fun _ h => List.mem_append_left _ (List.mem_append_right _ h)) (by decide +kernel))
set_option maxRecDepth 20000 in
theorem gL_law_L_limit : GoodIn wsL_law (va_wsS RL 128 yL_limit wsL_limit) := goodIn_app (goodIn_of _ (by decide +kernel)) ggL_law_L_limit
set_option maxRecDepth 20000 in
theorem ggL_law_X5_limit : GoodIn wsL_law wsX5_limit := goodIn_r _ [347, 105, 156, 106, 730, 731, 732, 733, 734, 735, 736, 737, 738, 739, 740, 741, 742, 743, 744, 745, 746, 747, 748, 749, 750, 751, 752, 753, 754, 755, 756, 757, 758, 759, 760, 761, 762, 763, 764] (by decide +kernel) (by decide +kernel)
set_option maxRecDepth 20000 in
theorem gL_law_X5_limit : GoodIn wsL_law (wsV RL 130 RX5 yX5_limit wsX5_limit) := goodIn_app (goodIn_of _ (by decide +kernel)) ggL_law_X5_limit
set_option maxRecDepth 20000 in
theorem ggL_law_L_fail : GoodIn wsL_law wsL_fail := goodIn_ca (goodIn_r _ [350, 110, 351, 352, 353, 2, 354, 355, 169, 170, 171, 172, 116, 118, 119, 120, 121, 122, 123, 124, 125, 126, 127, 128, 129, 130, 131, 132, 24, 25, 173, 174, 175, 23, 176, 45, 46, 48, 777, 778, 779, 780, 781, 782, 791, 792, 793, 794, 795, 796, 797, 798, 799, 765, 766, 767, 768, 769, 770, 771, 772, 773, 774, 775, 776, 721, 722, 723, 724, 725, 726, 727, 728, 729] (by decide +kernel) (by decide +kernel)) (goodIn_sub (fun _ h => List.mem_append_left _ (List.mem_append_right _ h)) (by decide +kernel))
set_option maxRecDepth 20000 in
theorem gL_law_L_fail : GoodIn wsL_law (va_wsS RL 131 yL_fail wsL_fail) := goodIn_app (goodIn_of _ (by decide +kernel)) ggL_law_L_fail
set_option maxRecDepth 20000 in
theorem ggL_law_X5_fail : GoodIn wsL_law wsX5_fail := goodIn_r _ [359, 156, 80, 181, 182, 183, 5, 184, 74, 149, 150, 151, 730, 731, 732, 733, 734, 735, 736, 737, 738, 739, 740, 741, 742, 743, 744, 745, 746, 747, 748, 749, 750, 751, 752, 753, 754, 755, 756, 757, 758, 759, 760, 761, 762, 763, 764] (by decide +kernel) (by decide +kernel)
set_option maxRecDepth 20000 in
theorem gL_law_X5_fail : GoodIn wsL_law (wsV RL 133 RX5 yX5_fail wsX5_fail) := goodIn_app (goodIn_of _ (by decide +kernel)) ggL_law_X5_fail
set_option maxRecDepth 20000 in
theorem ggL_law_L_mend : GoodIn wsL_law wsL_mend := goodIn_ca (goodIn_r _ [362, 110, 363, 364, 365, 2, 366, 169, 170, 171, 172, 116, 118, 119, 120, 121, 122, 123, 124, 125, 126, 127, 128, 129, 130, 131, 132, 24, 25, 173, 174, 175, 23, 176, 45, 46, 48, 367, 368, 369, 44, 370, 371, 372, 373, 374, 375, 376, 377, 765, 766, 767, 768, 769, 770, 771, 772, 773, 774, 775, 776, 721, 722, 723, 724, 725, 726, 727, 728, 729, 777, 778, 779, 780, 781, 782, 791, 792, 793, 794, 795, 796, 797, 798, 799] (by decide +kernel) (by decide +kernel)) (goodIn_sub (fun _ h => List.mem_append_left _ (List.mem_append_right _ h)) (by decide +kernel))
set_option maxRecDepth 20000 in
theorem gL_law_L_mend : GoodIn wsL_law (va_wsS RL 134 yL_mend wsL_mend) := goodIn_app (goodIn_of _ (by decide +kernel)) ggL_law_L_mend
set_option maxRecDepth 20000 in
theorem ggL_law_X5_mend : GoodIn wsL_law wsX5_mend := goodIn_r _ [381, 156, 80, 81, 77, 76, 181, 182, 183, 5, 184, 74, 149, 150, 151, 730, 731, 732, 733, 734, 735, 736, 737, 738, 739, 740, 741, 742, 743, 744, 745, 746, 747, 748, 749, 750, 751, 752, 753, 754, 755, 756, 757, 758, 759, 760, 761, 762, 763, 764] (by decide +kernel) (by decide +kernel)
set_option maxRecDepth 20000 in
theorem gL_law_X5_mend : GoodIn wsL_law (wsV RL 136 RX5 yX5_mend wsX5_mend) := goodIn_app (goodIn_of _ (by decide +kernel)) ggL_law_X5_mend
set_option maxRecDepth 20000 in
theorem ggL_law_L_ticks : GoodIn wsL_law wsL_ticks := goodIn_ca (goodIn_ca (goodIn_r _ [384, 110, 111, 385, 386, 387, 2, 388, 117, 121, 122, 123, 124, 125, 126, 127, 128, 133, 134, 135, 136, 137, 389, 390, 391, 392, 27, 393, 24, 25, 394, 395, 396, 397, 23, 398, 45, 46, 142, 48, 399, 400, 401, 44, 402, 371, 403, 62, 373, 374, 404, 405, 406, 407, 408, 409, 410, 411, 412, 58, 413, 414, 415, 416, 417, 418, 419, 420, 421, 422, 423, 424, 425, 426, 427, 428, 429, 430, 431, 432, 433, 434, 51, 54, 435, 52, 436, 437, 438, 439, 274, 440, 441, 442, 443, 294, 295, 296, 56, 297, 298, 299, 444, 445, 446, 447, 448, 32, 33, 34, 449, 450, 451, 452, 290, 291, 292, 293, 453, 454, 455, 456, 457, 458, 459, 460, 461, 462, 463, 464, 465, 466, 319, 320, 192, 194, 195, 222, 196, 467, 468, 469, 470, 50, 471, 472, 473, 474, 475, 476, 477, 478, 479, 480, 481, 482, 483, 484, 485, 486, 487, 488, 489, 490, 491, 492, 493, 494, 495, 496, 497, 498, 499, 500, 501, 502, 503, 504, 505, 506, 507, 508, 509, 510, 511, 512, 513, 514, 515, 20, 516, 517, 518, 519, 520, 521, 522, 523, 524, 525, 526, 527, 528, 529, 530, 531, 532, 533, 534, 535, 536, 537, 538, 18, 539, 540, 541, 542, 543, 544, 545, 546, 547, 548, 549, 550, 551, 552, 553, 554, 555, 556, 557, 558, 559, 560, 561, 562, 563, 564, 565, 566, 567, 568, 569, 570, 571, 572, 573, 574, 575, 576, 577, 578, 579, 580, 581, 582, 583, 584, 585, 586, 587, 588, 721, 722, 723, 724, 725, 726, 727, 728, 729, 765, 766, 767, 768, 769, 770, 771, 772, 773, 774, 775, 776, 777, 778, 779, 780, 781, 782, 791, 792, 793, 794, 795, 796, 797, 798, 799, 783, 784, 785, 786, 787, 788, 789, 790] (by decide +kernel) (by decide +kernel)) (goodIn_sub (fun _ h => List.mem_append_left _ (List.mem_append_right _ h)) (by decide +kernel))) (goodIn_sub (fun _ h => List.mem_append_right _ h) (by decide +kernel))
set_option maxRecDepth 20000 in
theorem gL_law_L_ticks : GoodIn wsL_law (va_wsS RL 137 yL_ticks wsL_ticks) := goodIn_app (goodIn_of _ (by decide +kernel)) ggL_law_L_ticks
set_option maxRecDepth 20000 in
theorem ggL_law_X5_ticks : GoodIn wsL_law wsX5_ticks := goodIn_r _ [592, 148, 152, 153, 154, 5, 155, 156, 593, 594, 595, 596, 597, 83, 76, 598, 599, 600, 601, 74, 77, 80, 78, 75, 81, 602, 603, 604, 605, 85, 606, 607, 608, 609, 610, 611, 612, 613, 103, 89, 90, 95, 96, 614, 615, 616, 617, 308, 309, 310, 311, 87, 88, 304, 305, 306, 307, 618, 619, 620, 621, 622, 623, 624, 625, 100, 98, 91, 93, 101, 99, 92, 94, 626, 627, 628, 629, 97, 630, 631, 632, 633, 634, 635, 636, 637, 638, 639, 640, 641, 642, 643, 644, 645, 646, 647, 648, 649, 106, 650, 651, 652, 653, 86, 82, 654, 655, 656, 657, 84, 102, 658, 659, 660, 661, 104, 662, 663, 664, 665, 666, 667, 668, 669, 670, 730, 731, 732, 733, 734, 735, 736, 737, 738, 739, 740, 741, 742, 743, 744, 745, 746, 747, 748, 749, 750, 751, 752, 753, 754, 755, 756, 757, 758, 759, 760, 761, 762, 763, 764] (by decide +kernel) (by decide +kernel)
set_option maxRecDepth 20000 in
theorem gL_law_X5_ticks : GoodIn wsL_law (wsV RL 139 RX5 yX5_ticks wsX5_ticks) := goodIn_app (goodIn_of _ (by decide +kernel)) ggL_law_X5_ticks
set_option maxRecDepth 20000 in
theorem ggL_law_L_tube : GoodIn wsL_law wsL_tube := goodIn_ca (goodIn_r _ [673, 110, 674, 675, 676, 2, 677, 461, 466, 537, 538, 118, 119, 120, 121, 122, 123, 124, 125, 126, 127, 128, 129, 130, 131, 132, 24, 25, 540, 500, 501, 23, 502, 142, 48, 497, 417, 765, 766, 767, 768, 769, 770, 771, 772, 773, 774, 775, 776, 721, 722, 723, 724, 725, 726, 727, 728, 729, 777, 778, 779, 780, 781, 782, 791, 792, 793, 794, 795, 796, 797, 798, 799] (by decide +kernel) (by decide +kernel)) (goodIn_sub (fun _ h => List.mem_append_left _ (List.mem_append_right _ h)) (by decide +kernel))
set_option maxRecDepth 20000 in
theorem gL_law_L_tube : GoodIn wsL_law (va_wsS RL 140 yL_tube wsL_tube) := goodIn_app (goodIn_of _ (by decide +kernel)) ggL_law_L_tube
set_option maxRecDepth 20000 in
theorem ggL_law_X5_tube : GoodIn wsL_law wsX5_tube := goodIn_r _ [681, 156, 95, 96, 100, 101, 149, 150, 5, 151, 638, 639, 640, 641, 74, 76, 730, 731, 732, 733, 734, 735, 736, 737, 738, 739, 740, 741, 742, 743, 744, 745, 746, 747, 748, 749, 750, 751, 752, 753, 754, 755, 756, 757, 758, 759, 760, 761, 762, 763, 764] (by decide +kernel) (by decide +kernel)
set_option maxRecDepth 20000 in
theorem gL_law_X5_tube : GoodIn wsL_law (wsV RL 142 RX5 yX5_tube wsX5_tube) := goodIn_app (goodIn_of _ (by decide +kernel)) ggL_law_X5_tube
set_option maxRecDepth 20000 in
theorem ggL_law_L_device : GoodIn wsL_law wsL_device := goodIn_ca (goodIn_r _ [684, 110, 685, 686, 687, 2, 688, 539, 689, 690, 691, 355, 692, 169, 170, 171, 172, 116, 118, 119, 120, 121, 122, 123, 124, 125, 126, 127, 128, 129, 130, 131, 132, 24, 25, 693, 694, 695, 696, 697, 18, 117, 698, 556, 557, 58, 558, 554, 416, 417, 418, 419, 173, 174, 175, 23, 176, 45, 46, 48, 765, 766, 767, 768, 769, 770, 771, 772, 773, 774, 775, 776, 777, 778, 779, 780, 781, 782, 791, 792, 793, 794, 795, 796, 797, 798, 799, 721, 722, 723, 724, 725, 726, 727, 728, 729] (by decide +kernel) (by decide +kernel)) (goodIn_sub (fun _ h => List.mem_append_left _ (List.mem_append_right _ h)) (by decide +kernel))
set_option maxRecDepth 20000 in
theorem gL_law_L_device : GoodIn wsL_law (va_wsS RL 143 yL_device wsL_device) := goodIn_app (goodIn_of _ (by decide +kernel)) ggL_law_L_device
set_option maxRecDepth 20000 in
theorem ggL_law_X5_device : GoodIn wsL_law wsX5_device := goodIn_r _ [702, 156, 76, 77, 78, 80, 81, 83, 84, 104, 85, 148, 181, 182, 183, 5, 184, 74, 149, 150, 151, 730, 731, 732, 733, 734, 735, 736, 737, 738, 739, 740, 741, 742, 743, 744, 745, 746, 747, 748, 749, 750, 751, 752, 753, 754, 755, 756, 757, 758, 759, 760, 761, 762, 763, 764] (by decide +kernel) (by decide +kernel)
set_option maxRecDepth 20000 in
theorem gL_law_X5_device : GoodIn wsL_law (wsV RL 145 RX5 yX5_device wsX5_device) := goodIn_app (goodIn_of _ (by decide +kernel)) ggL_law_X5_device
set_option maxRecDepth 20000 in
theorem ggL_law_X4_load : GoodIn wsL_law wsX4_load := goodIn_r _ [519, 24, 117, 25, 520, 521, 522, 23, 523, 142, 48, 524, 525, 526, 58, 527, 416, 417, 418, 419, 528, 721, 722, 723, 724, 725, 726, 727, 728, 729, 765, 766, 767, 768, 769, 770, 771, 772, 773, 774, 775, 776, 777, 778, 779, 780, 781, 782, 791, 792, 793, 794, 795, 796, 797, 798, 799] (by decide +kernel) (by decide +kernel)
set_option maxRecDepth 20000 in
theorem gL_law_X4_load : GoodIn wsL_law (wsV RL 146 RX4 yX4_load wsX4_load) := goodIn_app (goodIn_of _ (by decide +kernel)) ggL_law_X4_load
set_option maxRecDepth 20000 in
theorem ggL_law_X5_load : GoodIn wsL_law wsX5_load := goodIn_r _ [707, 156, 650, 651, 652, 5, 653, 76, 148, 86, 82, 730, 731, 732, 733, 734, 735, 736, 737, 738, 739, 740, 741, 742, 743, 744, 745, 746, 747, 748, 749, 750, 751, 752, 753, 754, 755, 756, 757, 758, 759, 760, 761, 762, 763, 764] (by decide +kernel) (by decide +kernel)
set_option maxRecDepth 20000 in
theorem gL_law_X5_load : GoodIn wsL_law (wsV RL 149 RX5 yX5_load wsX5_load) := goodIn_app (goodIn_of _ (by decide +kernel)) ggL_law_X5_load
