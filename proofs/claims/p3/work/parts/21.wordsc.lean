set_option maxRecDepth 100000 in
theorem gg0_X6_count : GoodIn lw_tbl wsX6_count := goodIn_r _ [919, 582, 589, 590, 599, 609, 625, 627, 629, 631, 633, 635, 637, 639, 641, 643, 645, 647, 649, 651, 653, 655, 657, 659, 661, 663, 665, 667, 669, 671, 673, 675, 677, 679, 681, 683, 685, 687, 689, 691, 693, 695, 697, 699, 701, 703, 705, 707, 709] rfl (by decide +kernel)
set_option maxRecDepth 100000 in
theorem gL_law_X6_count : GoodIn lw_tbl (wsV RL 101 RX6 yX6_count wsX6_count) := goodIn_app (goodIn_of _ (by decide +kernel)) gg0_X6_count

set_option maxRecDepth 100000 in
theorem gg0_X6_date : GoodIn lw_tbl wsX6_date := goodIn_r _ [740, 582, 583, 584, 585, 741, 743, 21, 51, 744, 745, 362, 53, 363, 733, 734, 735, 736, 730, 731, 732, 723, 724, 725, 726, 727, 728, 625, 627, 629, 631, 633, 635, 637, 639, 641, 643, 645, 647, 649, 651, 653, 655, 657, 659, 661, 663, 665, 667, 669, 671, 673, 675, 677, 679, 681, 683, 685, 687, 689, 691, 693, 695, 697, 699, 701, 703, 705, 707, 709] rfl (by decide +kernel)
set_option maxRecDepth 100000 in
theorem gL_law_X6_date : GoodIn lw_tbl (wsV RL 22 RX6 yX6_date wsX6_date) := goodIn_app (goodIn_of _ (by decide +kernel)) gg0_X6_date

set_option maxRecDepth 100000 in
theorem gg0_X6_day : GoodIn lw_tbl wsX6_day := goodIn_r _ [716, 582, 717, 718, 51, 719, 729, 720, 721, 722, 723, 724, 725, 726, 727, 728, 730, 731, 732, 733, 734, 735, 736, 625, 627, 629, 631, 633, 635, 637, 639, 641, 643, 645, 647, 649, 651, 653, 655, 657, 659, 661, 663, 665, 667, 669, 671, 673, 675, 677, 679, 681, 683, 685, 687, 689, 691, 693, 695, 697, 699, 701, 703, 705, 707, 709] rfl (by decide +kernel)
set_option maxRecDepth 100000 in
theorem gL_law_X6_day : GoodIn lw_tbl (wsV RL 17 RX6 yX6_day wsX6_day) := goodIn_app (goodIn_of _ (by decide +kernel)) gg0_X6_day

set_option maxRecDepth 100000 in
theorem gg0_X6_event : GoodIn lw_tbl wsX6_event := goodIn_r _ [761, 582, 590, 625, 627, 629, 631, 633, 635, 637, 639, 641, 643, 645, 647, 649, 651, 653, 655, 657, 659, 661, 663, 665, 667, 669, 671, 673, 675, 677, 679, 681, 683, 685, 687, 689, 691, 693, 695, 697, 699, 701, 703, 705, 707, 709] rfl (by decide +kernel)
set_option maxRecDepth 100000 in
theorem gL_law_X6_event : GoodIn lw_tbl (wsV RL 35 RX6 yX6_event wsX6_event) := goodIn_app (goodIn_of _ (by decide +kernel)) gg0_X6_event

set_option maxRecDepth 100000 in
theorem gg0_X6_first : GoodIn lw_tbl wsX6_first := goodIn_r _ [817, 582, 610, 618, 616, 818, 820, 30, 51, 821, 590, 822, 824, 31, 825, 599, 598, 826, 828, 32, 829, 609, 603, 604, 830, 832, 33, 833, 615, 608, 834, 836, 34, 837, 606, 607, 778, 591, 592, 838, 840, 35, 841, 842, 844, 36, 845, 602, 600, 745, 362, 53, 363, 601, 779, 366, 367, 611, 612, 846, 848, 37, 849, 605, 850, 852, 38, 853, 613, 614, 595, 593, 594, 854, 856, 39, 857, 858, 860, 40, 861, 617, 625, 627, 629, 631, 633, 635, 637, 639, 641, 643, 645, 647, 649, 651, 653, 655, 657, 659, 661, 663, 665, 667, 669, 671, 673, 675, 677, 679, 681, 683, 685, 687, 689, 691, 693, 695, 697, 699, 701, 703, 705, 707, 709] rfl (by decide +kernel)
set_option maxRecDepth 100000 in
theorem gL_law_X6_first : GoodIn lw_tbl (wsV RL 65 RX6 yX6_first wsX6_first) := goodIn_app (goodIn_of _ (by decide +kernel)) gg0_X6_first

set_option maxRecDepth 100000 in
theorem gg0_X6_init : GoodIn lw_tbl wsX6_init := goodIn_r _ [580, 581, 61, 62, 92, 586, 587, 588, 591, 592, 593, 594, 595, 596, 597, 712, 598, 600, 601, 602, 606, 607, 608, 611, 612, 613, 614, 615, 616, 617, 619, 621, 622, 623, 624, 625, 627, 629, 631, 633, 635, 637, 639, 641, 643, 645, 647, 649, 651, 653, 655, 657, 659, 661, 663, 665, 667, 669, 671, 673, 675, 677, 679, 681, 683, 685, 687, 689, 691, 693, 695, 697, 699, 701, 703, 705, 707, 709] rfl (by decide +kernel)
theorem gL_law_X6_init : GoodIn lw_tbl (wsX6_init) := gg0_X6_init

set_option maxRecDepth 100000 in
theorem gg0_X6_king : GoodIn lw_tbl wsX6_king := goodIn_r _ [757, 582, 589, 586, 587, 588, 733, 734, 51, 735, 736, 625, 627, 629, 631, 633, 635, 637, 639, 641, 643, 645, 647, 649, 651, 653, 655, 657, 659, 661, 663, 665, 667, 669, 671, 673, 675, 677, 679, 681, 683, 685, 687, 689, 691, 693, 695, 697, 699, 701, 703, 705, 707, 709] rfl (by decide +kernel)
set_option maxRecDepth 100000 in
theorem gL_law_X6_king : GoodIn lw_tbl (wsV RL 30 RX6 yX6_king wsX6_king) := goodIn_app (goodIn_of _ (by decide +kernel)) gg0_X6_king

set_option maxRecDepth 100000 in
theorem gg0_X6_last : GoodIn lw_tbl wsX6_last := goodIn_r _ [865, 582, 610, 618, 617, 818, 820, 30, 51, 821, 590, 822, 824, 31, 825, 599, 598, 826, 828, 32, 829, 609, 603, 604, 830, 832, 33, 833, 615, 608, 834, 836, 34, 837, 606, 607, 778, 591, 592, 838, 840, 35, 841, 842, 844, 36, 845, 602, 600, 745, 362, 53, 363, 601, 779, 366, 367, 611, 612, 846, 848, 37, 849, 605, 850, 852, 38, 853, 613, 614, 595, 593, 594, 854, 856, 39, 857, 858, 860, 40, 861, 616, 625, 627, 629, 631, 633, 635, 637, 639, 641, 643, 645, 647, 649, 651, 653, 655, 657, 659, 661, 663, 665, 667, 669, 671, 673, 675, 677, 679, 681, 683, 685, 687, 689, 691, 693, 695, 697, 699, 701, 703, 705, 707, 709] rfl (by decide +kernel)
set_option maxRecDepth 100000 in
theorem gL_law_X6_last : GoodIn lw_tbl (wsV RL 69 RX6 yX6_last wsX6_last) := goodIn_app (goodIn_of _ (by decide +kernel)) gg0_X6_last

set_option maxRecDepth 100000 in
theorem gg0_X6_look : GoodIn lw_tbl wsX6_look := goodIn_r _ [805, 582, 591, 592, 596, 598, 597, 602, 794, 796, 28, 51, 797, 599, 806, 808, 29, 809, 625, 627, 629, 631, 633, 635, 637, 639, 641, 643, 645, 647, 649, 651, 653, 655, 657, 659, 661, 663, 665, 667, 669, 671, 673, 675, 677, 679, 681, 683, 685, 687, 689, 691, 693, 695, 697, 699, 701, 703, 705, 707, 709] rfl (by decide +kernel)
set_option maxRecDepth 100000 in
theorem gL_law_X6_look : GoodIn lw_tbl (wsV RL 55 RX6 yX6_look wsX6_look) := goodIn_app (goodIn_of _ (by decide +kernel)) gg0_X6_look

set_option maxRecDepth 100000 in
theorem gg0_X6_quarrel : GoodIn lw_tbl wsX6_quarrel := goodIn_r _ [877, 582, 610, 618, 603, 822, 824, 31, 51, 825, 599, 598, 826, 828, 32, 829, 609, 604, 830, 832, 33, 833, 615, 590, 608, 834, 836, 34, 837, 606, 607, 778, 591, 592, 838, 840, 35, 841, 842, 844, 36, 845, 602, 600, 745, 362, 53, 363, 601, 779, 366, 367, 611, 612, 846, 848, 37, 849, 605, 850, 852, 38, 853, 613, 614, 595, 593, 594, 854, 856, 39, 857, 858, 860, 40, 861, 616, 617, 878, 880, 41, 881, 882, 883, 884, 885, 886, 887, 625, 627, 629, 631, 633, 635, 637, 639, 641, 643, 645, 647, 649, 651, 653, 655, 657, 659, 661, 663, 665, 667, 669, 671, 673, 675, 677, 679, 681, 683, 685, 687, 689, 691, 693, 695, 697, 699, 701, 703, 705, 707, 709] rfl (by decide +kernel)
set_option maxRecDepth 100000 in
theorem gL_law_X6_quarrel : GoodIn lw_tbl (wsV RL 81 RX6 yX6_quarrel wsX6_quarrel) := goodIn_app (goodIn_of _ (by decide +kernel)) gg0_X6_quarrel

set_option maxRecDepth 100000 in
theorem gg0_X6_say : GoodIn lw_tbl wsX6_say := goodIn_r _ [765, 582, 590, 599, 591, 592, 593, 594, 595, 596, 597, 598, 766, 768, 23, 51, 769, 602, 788, 789, 770, 772, 24, 773, 729, 733, 734, 735, 736, 774, 776, 25, 777, 745, 362, 53, 363, 778, 779, 366, 367, 600, 601, 717, 718, 719, 720, 721, 722, 723, 724, 725, 726, 727, 728, 730, 731, 732, 780, 782, 26, 783, 784, 786, 27, 787, 589, 586, 587, 588, 750, 752, 22, 753, 583, 584, 585, 741, 743, 21, 744, 625, 627, 629, 631, 633, 635, 637, 639, 641, 643, 645, 647, 649, 651, 653, 655, 657, 659, 661, 663, 665, 667, 669, 671, 673, 675, 677, 679, 681, 683, 685, 687, 689, 691, 693, 695, 697, 699, 701, 703, 705, 707, 709] rfl (by decide +kernel)
set_option maxRecDepth 100000 in
theorem gL_law_X6_say : GoodIn lw_tbl (wsV RL 40 RX6 yX6_say wsX6_say) := goodIn_app (goodIn_of _ (by decide +kernel)) gg0_X6_say

set_option maxRecDepth 100000 in
theorem gg0_X6_settles : GoodIn lw_tbl wsX6_settles := goodIn_r _ [915, 582, 590, 623, 616, 624, 617, 745, 362, 53, 363, 908, 910, 44, 51, 911, 604, 605, 610, 618, 822, 824, 31, 825, 599, 598, 826, 828, 32, 829, 609, 603, 830, 832, 33, 833, 615, 608, 834, 836, 34, 837, 606, 607, 778, 591, 592, 838, 840, 35, 841, 842, 844, 36, 845, 602, 600, 601, 779, 366, 367, 611, 612, 846, 848, 37, 849, 850, 852, 38, 853, 613, 614, 595, 593, 594, 854, 856, 39, 857, 858, 860, 40, 861, 625, 627, 629, 631, 633, 635, 637, 639, 641, 643, 645, 647, 649, 651, 653, 655, 657, 659, 661, 663, 665, 667, 669, 671, 673, 675, 677, 679, 681, 683, 685, 687, 689, 691, 693, 695, 697, 699, 701, 703, 705, 707, 709] rfl (by decide +kernel)
set_option maxRecDepth 100000 in
theorem gL_law_X6_settles : GoodIn lw_tbl (wsV RL 97 RX6 yX6_settles wsX6_settles) := goodIn_app (goodIn_of _ (by decide +kernel)) gg0_X6_settles
