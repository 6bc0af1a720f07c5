set_option maxRecDepth 20000 in
theorem ggL_law_X4_starts : GoodIn wsL_law wsX4_starts := goodIn_r _ [567, 27, 721, 722, 723, 724, 725, 726, 727, 728, 729] (by decide +kernel) (by decide +kernel)
set_option maxRecDepth 20000 in
theorem gL_law_X4_starts : GoodIn wsL_law (wsV RL 150 RX4 yX4_starts wsX4_starts) := goodIn_app (goodIn_of _ (by decide +kernel)) ggL_law_X4_starts
set_option maxRecDepth 20000 in
theorem ggL_law_X5_starts : GoodIn wsL_law wsX5_starts := goodIn_r _ [712, 156, 662, 663, 664, 5, 665, 148, 102, 730, 731, 732, 733, 734, 735, 736, 737, 738, 739, 740, 741, 742, 743, 744, 745, 746, 747, 748, 749, 750, 751, 752, 753, 754, 755, 756, 757, 758, 759, 760, 761, 762, 763, 764] (by decide +kernel) (by decide +kernel)
set_option maxRecDepth 20000 in
theorem gL_law_X5_starts : GoodIn wsL_law (wsV RL 153 RX5 yX5_starts wsX5_starts) := goodIn_app (goodIn_of _ (by decide +kernel)) ggL_law_X5_starts
set_option maxRecDepth 20000 in
theorem ggL_law_X4_broken : GoodIn wsL_law wsX4_broken := goodIn_r _ [716, 394, 721, 722, 723, 724, 725, 726, 727, 728, 729] (by decide +kernel) (by decide +kernel)
set_option maxRecDepth 20000 in
theorem gL_law_X4_broken : GoodIn wsL_law (wsV RL 154 RX4 yX4_broken wsX4_broken) := goodIn_app (goodIn_of _ (by decide +kernel)) ggL_law_X4_broken
set_option maxRecDepth 20000 in
theorem ggL_law_X5_broken : GoodIn wsL_law wsX5_broken := goodIn_r _ [720, 156, 670, 730, 731, 732, 733, 734, 735, 736, 737, 738, 739, 740, 741, 742, 743, 744, 745, 746, 747, 748, 749, 750, 751, 752, 753, 754, 755, 756, 757, 758, 759, 760, 761, 762, 763, 764] (by decide +kernel) (by decide +kernel)
set_option maxRecDepth 20000 in
theorem gL_law_X5_broken : GoodIn wsL_law (wsV RL 157 RX5 yX5_broken wsX5_broken) := goodIn_app (goodIn_of _ (by decide +kernel)) ggL_law_X5_broken
