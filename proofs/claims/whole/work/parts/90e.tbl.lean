set_option maxRecDepth 100000 in
set_option maxHeartbeats 4000000 in
theorem tgX5_pass : GoodIn lw_tbl wsX5_pass := goodIn_r _ [834, 696, 705, 730, 731, 32, 732, 733, 735, 15, 736, 835, 836, 837, 33, 838, 839, 840, 841, 842, 648, 662, 638, 857, 858, 40, 859, 635, 843, 844, 845, 846, 644, 636, 642, 847, 516, 517, 811, 812, 813, 814, 810, 762, 763, 764, 801, 746, 747, 748, 646, 848, 850, 21, 851, 652, 852, 854, 22, 855, 650, 640, 660, 654, 856, 798, 799, 800, 860, 862, 23, 863, 658, 656, 864, 866, 24, 867, 661, 707, 709, 711, 713, 715, 717, 719, 663, 665, 667, 669, 671, 673, 675, 677, 679, 681, 683, 685, 687, 689, 691, 693] (by decide +kernel) (by decide +kernel)
set_option maxRecDepth 100000 in
set_option maxHeartbeats 4000000 in
theorem tX5_pass : GoodIn lw_tbl (wsV RL 122 RX5 yX5_pass wsX5_pass) := goodIn_app (goodIn_r _ [831, 832, 833, 32] (by decide +kernel) (by decide +kernel)) tgX5_pass
set_option maxRecDepth 100000 in
set_option maxHeartbeats 4000000 in
theorem tgX5_catches : GoodIn lw_tbl wsX5_catches := goodIn_r _ [871, 696, 706, 705, 741, 743, 16, 32, 744, 699, 730, 731, 732, 872, 873, 874, 33, 875, 635, 648, 658, 660, 661, 636, 638, 640, 642, 644, 646, 650, 652, 654, 656, 876, 878, 25, 879, 880, 882, 881, 41, 883, 844, 845, 846, 662, 847, 516, 40, 517, 811, 812, 813, 814, 810, 762, 763, 764, 801, 746, 747, 748, 733, 735, 15, 736, 707, 709, 711, 713, 715, 717, 719, 663, 665, 667, 669, 671, 673, 675, 677, 679, 681, 683, 685, 687, 689, 691, 693] (by decide +kernel) (by decide +kernel)
set_option maxRecDepth 100000 in
set_option maxHeartbeats 4000000 in
theorem tX5_catches : GoodIn lw_tbl (wsV RL 125 RX5 yX5_catches wsX5_catches) := goodIn_app (goodIn_r _ [868, 869, 870, 32] (by decide +kernel) (by decide +kernel)) tgX5_catches
set_option maxRecDepth 100000 in
set_option maxHeartbeats 4000000 in
theorem tgX5_arrives : GoodIn lw_tbl wsX5_arrives := goodIn_r _ [887, 696, 706, 705, 785, 787, 18, 32, 788, 730, 731, 732, 733, 735, 15, 736, 872, 873, 874, 33, 875, 635, 648, 658, 660, 661, 636, 638, 640, 642, 644, 646, 650, 652, 654, 656, 876, 878, 25, 879, 880, 882, 881, 41, 888, 890, 26, 891, 892, 840, 841, 842, 662, 857, 858, 40, 859, 843, 844, 845, 846, 847, 516, 517, 811, 812, 813, 814, 810, 762, 763, 764, 801, 746, 747, 748, 848, 850, 21, 851, 852, 854, 22, 855, 856, 798, 799, 800, 860, 862, 23, 863, 864, 866, 24, 867, 707, 709, 711, 713, 715, 717, 719, 663, 665, 667, 669, 671, 673, 675, 677, 679, 681, 683, 685, 687, 689, 691, 693] (by decide +kernel) (by decide +kernel)
set_option maxRecDepth 100000 in
set_option maxHeartbeats 4000000 in
theorem tX5_arrives : GoodIn lw_tbl (wsV RL 128 RX5 yX5_arrives wsX5_arrives) := goodIn_app (goodIn_r _ [884, 885, 886, 32] (by decide +kernel) (by decide +kernel)) tgX5_arrives
set_option maxRecDepth 100000 in
set_option maxHeartbeats 4000000 in
theorem tgX5_lasts : GoodIn lw_tbl wsX5_lasts := goodIn_r _ [896, 696, 706, 705, 741, 743, 16, 32, 744, 699, 730, 731, 732, 733, 735, 15, 736, 872, 873, 874, 33, 875, 635, 648, 658, 660, 661, 636, 638, 640, 642, 644, 646, 650, 652, 654, 656, 876, 878, 25, 879, 880, 882, 881, 41, 745, 746, 747, 748, 892, 840, 841, 842, 662, 857, 858, 40, 859, 843, 844, 845, 846, 847, 516, 517, 811, 812, 813, 814, 810, 762, 763, 764, 801, 848, 850, 21, 851, 852, 854, 22, 855, 856, 798, 799, 800, 860, 862, 23, 863, 864, 866, 24, 867, 707, 709, 711, 713, 715, 717, 719, 663, 665, 667, 669, 671, 673, 675, 677, 679, 681, 683, 685, 687, 689, 691, 693] (by decide +kernel) (by decide +kernel)
set_option maxRecDepth 100000 in
set_option maxHeartbeats 4000000 in
theorem tX5_lasts : GoodIn lw_tbl (wsV RL 131 RX5 yX5_lasts wsX5_lasts) := goodIn_app (goodIn_r _ [893, 894, 895, 32] (by decide +kernel) (by decide +kernel)) tgX5_lasts
set_option maxRecDepth 100000 in
set_option maxHeartbeats 4000000 in
theorem tgX5_foresee : GoodIn lw_tbl wsX5_foresee := goodIn_r _ [900, 696, 706, 705, 730, 731, 32, 732, 733, 735, 15, 736, 872, 873, 874, 33, 875, 635, 648, 658, 660, 661, 636, 638, 640, 642, 644, 646, 650, 652, 654, 656, 876, 878, 25, 879, 880, 882, 881, 41, 835, 836, 837, 838, 839, 840, 841, 842, 662, 857, 858, 40, 859, 843, 844, 845, 846, 847, 516, 517, 811, 812, 813, 814, 810, 762, 763, 764, 801, 746, 747, 748, 848, 850, 21, 851, 852, 854, 22, 855, 856, 798, 799, 800, 860, 862, 23, 863, 864, 866, 24, 867, 806, 807, 808, 809, 97, 815, 816, 817, 818, 819, 820, 821, 822, 707, 709, 711, 713, 715, 717, 719, 663, 665, 667, 669, 671, 673, 675, 677, 679, 681, 683, 685, 687, 689, 691, 693] (by decide +kernel) (by decide +kernel)
set_option maxRecDepth 100000 in
set_option maxHeartbeats 4000000 in
theorem tX5_foresee : GoodIn lw_tbl (wsV RL 134 RX5 yX5_foresee wsX5_foresee) := goodIn_app (goodIn_r _ [897, 898, 899, 32] (by decide +kernel) (by decide +kernel)) tgX5_foresee
set_option maxRecDepth 100000 in
set_option maxHeartbeats 4000000 in
theorem tgX5_advise : GoodIn lw_tbl wsX5_advise := goodIn_r _ [904, 696, 706, 705, 741, 743, 16, 32, 744, 699, 730, 731, 732, 733, 735, 15, 736, 872, 873, 874, 33, 875, 635, 648, 658, 660, 661, 636, 638, 640, 642, 644, 646, 650, 652, 654, 656, 876, 878, 25, 879, 880, 882, 881, 41, 835, 836, 837, 838, 839, 840, 841, 842, 662, 857, 858, 40, 859, 843, 844, 845, 846, 847, 516, 517, 811, 812, 813, 814, 810, 762, 763, 764, 801, 746, 747, 748, 848, 850, 21, 851, 852, 854, 22, 855, 856, 798, 799, 800, 860, 862, 23, 863, 864, 866, 24, 867, 707, 709, 711, 713, 715, 717, 719, 663, 665, 667, 669, 671, 673, 675, 677, 679, 681, 683, 685, 687, 689, 691, 693] (by decide +kernel) (by decide +kernel)
set_option maxRecDepth 100000 in
set_option maxHeartbeats 4000000 in
theorem tX5_advise : GoodIn lw_tbl (wsV RL 137 RX5 yX5_advise wsX5_advise) := goodIn_app (goodIn_r _ [901, 902, 903, 32] (by decide +kernel) (by decide +kernel)) tgX5_advise
set_option maxRecDepth 100000 in
set_option maxHeartbeats 4000000 in
theorem tgX5_digest : GoodIn lw_tbl wsX5_digest := goodIn_r _ [913, 696, 914, 915, 705, 697, 699, 806, 807, 808, 33, 809, 97, 635, 662, 648, 658, 660, 661, 810, 762, 763, 764, 811, 812, 813, 814, 815, 816, 817, 818, 801, 746, 747, 748, 646, 819, 820, 821, 822, 642, 777, 779, 17, 32, 780, 701, 703, 789, 791, 19, 792, 793, 795, 20, 796, 797, 798, 799, 800, 644, 636, 707, 709, 711, 713, 715, 717, 719, 663, 665, 667, 669, 671, 673, 675, 677, 679, 681, 683, 685, 687, 689, 691, 693] (by decide +kernel) (by decide +kernel)
set_option maxRecDepth 100000 in
set_option maxHeartbeats 4000000 in
theorem tX5_digest : GoodIn lw_tbl (wsV RL 147 RX5 yX5_digest wsX5_digest) := goodIn_app (goodIn_r _ [910, 911, 912, 32] (by decide +kernel) (by decide +kernel)) tgX5_digest
