set_option maxRecDepth 100000 in
set_option maxHeartbeats 4000000 in
theorem tgX5_weir : GoodIn lw_tbl wsX5_weir := goodIn_r _ [729, 696, 699, 701, 703, 705, 730, 731, 32, 732, 733, 735, 15, 736, 707, 709, 711, 713, 715, 717, 719, 663, 665, 667, 669, 671, 673, 675, 677, 679, 681, 683, 685, 687, 689, 691, 693] (by decide +kernel) (by decide +kernel)
set_option maxRecDepth 100000 in
set_option maxHeartbeats 4000000 in
theorem tX5_weir : GoodIn lw_tbl (wsV RL 79 RX5 yX5_weir wsX5_weir) := goodIn_app (goodIn_r _ [726, 727, 728, 32] (by decide +kernel) (by decide +kernel)) tgX5_weir
set_option maxRecDepth 100000 in
set_option maxHeartbeats 4000000 in
theorem tgX5_gate : GoodIn lw_tbl wsX5_gate := goodIn_r _ [740, 705, 696, 741, 743, 16, 32, 744, 699, 730, 731, 732, 745, 746, 747, 33, 748, 646, 707, 709, 711, 713, 715, 717, 719, 663, 665, 667, 669, 671, 673, 675, 677, 679, 681, 683, 685, 687, 689, 691, 693] (by decide +kernel) (by decide +kernel)
set_option maxRecDepth 100000 in
set_option maxHeartbeats 4000000 in
theorem tX5_gate : GoodIn lw_tbl (wsV RL 87 RX5 yX5_gate wsX5_gate) := goodIn_app (goodIn_r _ [737, 738, 739, 32] (by decide +kernel) (by decide +kernel)) tgX5_gate
set_option maxRecDepth 100000 in
set_option maxHeartbeats 4000000 in
theorem tgX5_mend : GoodIn lw_tbl wsX5_mend := goodIn_r _ [752, 696, 705, 741, 743, 16, 32, 744, 699, 730, 731, 732, 733, 735, 15, 736, 745, 746, 747, 33, 748, 646, 707, 709, 711, 713, 715, 717, 719, 663, 665, 667, 669, 671, 673, 675, 677, 679, 681, 683, 685, 687, 689, 691, 693] (by decide +kernel) (by decide +kernel)
set_option maxRecDepth 100000 in
set_option maxHeartbeats 4000000 in
theorem tX5_mend : GoodIn lw_tbl (wsV RL 91 RX5 yX5_mend wsX5_mend) := goodIn_app (goodIn_r _ [749, 750, 751, 32] (by decide +kernel) (by decide +kernel)) tgX5_mend
set_option maxRecDepth 100000 in
set_option maxHeartbeats 4000000 in
theorem tgX5_drive : GoodIn lw_tbl wsX5_drive := goodIn_r _ [756, 696, 705, 741, 743, 16, 32, 744, 699, 730, 731, 732, 733, 735, 15, 736, 745, 746, 747, 33, 748, 646, 707, 709, 711, 713, 715, 717, 719, 663, 665, 667, 669, 671, 673, 675, 677, 679, 681, 683, 685, 687, 689, 691, 693] (by decide +kernel) (by decide +kernel)
set_option maxRecDepth 100000 in
set_option maxHeartbeats 4000000 in
theorem tX5_drive : GoodIn lw_tbl (wsV RL 94 RX5 yX5_drive wsX5_drive) := goodIn_app (goodIn_r _ [753, 754, 755, 32] (by decide +kernel) (by decide +kernel)) tgX5_drive
set_option maxRecDepth 100000 in
set_option maxHeartbeats 4000000 in
theorem tgX5_sell : GoodIn lw_tbl wsX5_sell := goodIn_r _ [760, 696, 705, 741, 743, 16, 32, 744, 699, 730, 731, 732, 733, 735, 15, 736, 745, 746, 747, 33, 748, 646, 761, 762, 763, 764, 635, 707, 709, 711, 713, 715, 717, 719, 663, 665, 667, 669, 671, 673, 675, 677, 679, 681, 683, 685, 687, 689, 691, 693] (by decide +kernel) (by decide +kernel)
set_option maxRecDepth 100000 in
set_option maxHeartbeats 4000000 in
theorem tX5_sell : GoodIn lw_tbl (wsV RL 97 RX5 yX5_sell wsX5_sell) := goodIn_app (goodIn_r _ [757, 758, 759, 32] (by decide +kernel) (by decide +kernel)) tgX5_sell
set_option maxRecDepth 100000 in
set_option maxHeartbeats 4000000 in
theorem tgX5_setRun : GoodIn lw_tbl wsX5_setRun := goodIn_r _ [768, 696, 697, 730, 731, 32, 732, 733, 735, 15, 736, 707, 709, 711, 713, 715, 717, 719] (by decide +kernel) (by decide +kernel)
set_option maxRecDepth 100000 in
set_option maxHeartbeats 4000000 in
theorem tX5_setRun : GoodIn lw_tbl (wsV RL 100 RX5 yX5_setRun wsX5_setRun) := goodIn_app (goodIn_r _ [765, 766, 767, 32] (by decide +kernel) (by decide +kernel)) tgX5_setRun
set_option maxRecDepth 100000 in
set_option maxHeartbeats 4000000 in
theorem tgX5_barge : GoodIn lw_tbl wsX5_barge := goodIn_r _ [772, 696, 705, 730, 731, 32, 732, 733, 735, 15, 736, 707, 709, 711, 713, 715, 717, 719, 663, 665, 667, 669, 671, 673, 675, 677, 679, 681, 683, 685, 687, 689, 691, 693] (by decide +kernel) (by decide +kernel)
set_option maxRecDepth 100000 in
set_option maxHeartbeats 4000000 in
theorem tX5_barge : GoodIn lw_tbl (wsV RL 103 RX5 yX5_barge wsX5_barge) := goodIn_app (goodIn_r _ [769, 770, 771, 32] (by decide +kernel) (by decide +kernel)) tgX5_barge
set_option maxRecDepth 100000 in
set_option maxHeartbeats 4000000 in
theorem tgX5_about : GoodIn lw_tbl wsX5_about := goodIn_r _ [776, 696, 741, 743, 16, 32, 744, 699, 730, 731, 732, 777, 779, 17, 780, 97, 701, 705, 703, 733, 735, 15, 736, 707, 709, 711, 713, 715, 717, 719, 663, 665, 667, 669, 671, 673, 675, 677, 679, 681, 683, 685, 687, 689, 691, 693] (by decide +kernel) (by decide +kernel)
set_option maxRecDepth 100000 in
set_option maxHeartbeats 4000000 in
theorem tX5_about : GoodIn lw_tbl (wsV RL 106 RX5 yX5_about wsX5_about) := goodIn_app (goodIn_r _ [773, 774, 775, 32] (by decide +kernel) (by decide +kernel)) tgX5_about
set_option maxRecDepth 100000 in
set_option maxHeartbeats 4000000 in
theorem tgX5_told : GoodIn lw_tbl wsX5_told := goodIn_r _ [784, 696, 785, 787, 18, 32, 788, 705, 730, 731, 732, 789, 791, 19, 792, 793, 795, 20, 796, 699, 701, 797, 798, 799, 33, 800, 644, 636, 801, 746, 747, 748, 646, 733, 735, 15, 736, 707, 709, 711, 713, 715, 717, 719, 663, 665, 667, 669, 671, 673, 675, 677, 679, 681, 683, 685, 687, 689, 691, 693] (by decide +kernel) (by decide +kernel)
set_option maxRecDepth 100000 in
set_option maxHeartbeats 4000000 in
theorem tX5_told : GoodIn lw_tbl (wsV RL 109 RX5 yX5_told wsX5_told) := goodIn_app (goodIn_r _ [781, 782, 783, 32] (by decide +kernel) (by decide +kernel)) tgX5_told
set_option maxRecDepth 100000 in
set_option maxHeartbeats 4000000 in
theorem tgX5_count : GoodIn lw_tbl wsX5_count := goodIn_r _ [805, 696, 705, 730, 731, 32, 732, 806, 807, 808, 33, 809, 97, 635, 662, 648, 658, 660, 661, 810, 762, 763, 764, 811, 812, 813, 814, 815, 816, 817, 818, 801, 746, 747, 748, 646, 819, 820, 821, 822, 642, 733, 735, 15, 736, 707, 709, 711, 713, 715, 717, 719, 663, 665, 667, 669, 671, 673, 675, 677, 679, 681, 683, 685, 687, 689, 691, 693] (by decide +kernel) (by decide +kernel)
set_option maxRecDepth 100000 in
set_option maxHeartbeats 4000000 in
theorem tX5_count : GoodIn lw_tbl (wsV RL 112 RX5 yX5_count wsX5_count) := goodIn_app (goodIn_r _ [802, 803, 804, 32] (by decide +kernel) (by decide +kernel)) tgX5_count
set_option maxRecDepth 100000 in
set_option maxHeartbeats 4000000 in
theorem tgX5_hinders : GoodIn lw_tbl wsX5_hinders := goodIn_r _ [826, 696, 699, 705, 730, 731, 32, 732, 733, 735, 15, 736, 797, 798, 799, 33, 800, 644, 636, 801, 746, 747, 748, 646, 707, 709, 711, 713, 715, 717, 719, 663, 665, 667, 669, 671, 673, 675, 677, 679, 681, 683, 685, 687, 689, 691, 693] (by decide +kernel) (by decide +kernel)
set_option maxRecDepth 100000 in
set_option maxHeartbeats 4000000 in
theorem tX5_hinders : GoodIn lw_tbl (wsV RL 115 RX5 yX5_hinders wsX5_hinders) := goodIn_app (goodIn_r _ [823, 824, 825, 32] (by decide +kernel) (by decide +kernel)) tgX5_hinders
set_option maxRecDepth 100000 in
set_option maxHeartbeats 4000000 in
theorem tgX5_richest : GoodIn lw_tbl wsX5_richest := goodIn_r _ [830, 696, 699, 705, 745, 746, 747, 33, 748, 646, 707, 709, 711, 713, 715, 717, 719, 663, 665, 667, 669, 671, 673, 675, 677, 679, 681, 683, 685, 687, 689, 691, 693] (by decide +kernel) (by decide +kernel)
set_option maxRecDepth 100000 in
set_option maxHeartbeats 4000000 in
theorem tX5_richest : GoodIn lw_tbl (wsV RL 119 RX5 yX5_richest wsX5_richest) := goodIn_app (goodIn_r _ [827, 828, 829, 32] (by decide +kernel) (by decide +kernel)) tgX5_richest
set_option maxRecDepth 100000 in
set_option maxHeartbeats 4000000 in
theorem tgX5_mean : GoodIn lw_tbl wsX5_mean := goodIn_r _ [908, 696, 699, 705, 745, 746, 747, 33, 748, 646, 909, 816, 817, 818, 662, 801, 707, 709, 711, 713, 715, 717, 719, 663, 665, 667, 669, 671, 673, 675, 677, 679, 681, 683, 685, 687, 689, 691, 693] (by decide +kernel) (by decide +kernel)
set_option maxRecDepth 100000 in
set_option maxHeartbeats 4000000 in
theorem tX5_mean : GoodIn lw_tbl (wsV RL 142 RX5 yX5_mean wsX5_mean) := goodIn_app (goodIn_r _ [905, 906, 907, 32] (by decide +kernel) (by decide +kernel)) tgX5_mean
set_option maxRecDepth 100000 in
set_option maxHeartbeats 4000000 in
theorem tgX5_thrown : GoodIn lw_tbl wsX5_thrown := goodIn_r _ [725, 696, 707, 709, 711, 713, 715, 717, 719] (by decide +kernel) (by decide +kernel)
set_option maxRecDepth 100000 in
set_option maxHeartbeats 4000000 in
theorem tX5_thrown : GoodIn lw_tbl (wsV RL 80 RX5 yX5_thrown wsX5_thrown) := goodIn_app (goodIn_r _ [722, 723, 724, 32] (by decide +kernel) (by decide +kernel)) tgX5_thrown
