set_option maxRecDepth 100000 in
theorem gg0_X6_slipped : GoodIn lw_tbl wsX6_slipped := goodIn_r _ [903, 582, 620, 619, 625, 627, 629, 631, 633, 635, 637, 639, 641, 643, 645, 647, 649, 651, 653, 655, 657, 659, 661, 663, 665, 667, 669, 671, 673, 675, 677, 679, 681, 683, 685, 687, 689, 691, 693, 695, 697, 699, 701, 703, 705, 707, 709] rfl (by decide +kernel)
set_option maxRecDepth 100000 in
theorem gL_law_X6_slipped : GoodIn lw_tbl (wsV RL 89 RX6 yX6_slipped wsX6_slipped) := goodIn_app (goodIn_of _ (by decide +kernel)) gg0_X6_slipped

set_option maxRecDepth 100000 in
theorem gg0_X6_slips : GoodIn lw_tbl wsX6_slips := goodIn_r _ [891, 582, 596, 622, 603, 610, 618, 621, 620, 619, 892, 894, 42, 51, 895, 599, 598, 806, 808, 29, 809, 597, 822, 824, 31, 825, 826, 828, 32, 829, 609, 604, 896, 898, 43, 899, 830, 832, 33, 833, 615, 590, 608, 834, 836, 34, 837, 606, 607, 778, 591, 592, 838, 840, 35, 841, 842, 844, 36, 845, 602, 600, 745, 362, 53, 363, 601, 779, 366, 367, 611, 612, 846, 848, 37, 849, 605, 850, 852, 38, 853, 613, 614, 595, 593, 594, 854, 856, 39, 857, 858, 860, 40, 861, 616, 617, 625, 627, 629, 631, 633, 635, 637, 639, 641, 643, 645, 647, 649, 651, 653, 655, 657, 659, 661, 663, 665, 667, 669, 671, 673, 675, 677, 679, 681, 683, 685, 687, 689, 691, 693, 695, 697, 699, 701, 703, 705, 707, 709] rfl (by decide +kernel)
set_option maxRecDepth 100000 in
theorem gL_law_X6_slips : GoodIn lw_tbl (wsV RL 85 RX6 yX6_slips wsX6_slips) := goodIn_app (goodIn_of _ (by decide +kernel)) gg0_X6_slips

set_option maxRecDepth 100000 in
theorem gg0_X6_span : GoodIn lw_tbl wsX6_span := goodIn_r _ [813, 582, 602, 601, 600, 794, 796, 28, 51, 797, 599, 625, 627, 629, 631, 633, 635, 637, 639, 641, 643, 645, 647, 649, 651, 653, 655, 657, 659, 661, 663, 665, 667, 669, 671, 673, 675, 677, 679, 681, 683, 685, 687, 689, 691, 693, 695, 697, 699, 701, 703, 705, 707, 709] rfl (by decide +kernel)
set_option maxRecDepth 100000 in
theorem gL_law_X6_span : GoodIn lw_tbl (wsV RL 60 RX6 yX6_span wsX6_span) := goodIn_app (goodIn_of _ (by decide +kernel)) gg0_X6_span

set_option maxRecDepth 100000 in
theorem gg0_X6_take : GoodIn lw_tbl wsX6_take := goodIn_r _ [801, 582, 598, 794, 796, 28, 51, 797, 599, 625, 627, 629, 631, 633, 635, 637, 639, 641, 643, 645, 647, 649, 651, 653, 655, 657, 659, 661, 663, 665, 667, 669, 671, 673, 675, 677, 679, 681, 683, 685, 687, 689, 691, 693, 695, 697, 699, 701, 703, 705, 707, 709] rfl (by decide +kernel)
set_option maxRecDepth 100000 in
theorem gL_law_X6_take : GoodIn lw_tbl (wsV RL 50 RX6 yX6_take wsX6_take) := goodIn_app (goodIn_of _ (by decide +kernel)) gg0_X6_take

set_option maxRecDepth 100000 in
theorem gg0_X6_width : GoodIn lw_tbl wsX6_width := goodIn_r _ [907, 582, 818, 820, 30, 51, 821, 590, 733, 734, 735, 736, 908, 910, 44, 911, 604, 605, 610, 618, 617, 616, 822, 824, 31, 825, 599, 598, 826, 828, 32, 829, 609, 603, 830, 832, 33, 833, 615, 608, 834, 836, 34, 837, 606, 607, 778, 591, 592, 838, 840, 35, 841, 842, 844, 36, 845, 602, 600, 745, 362, 53, 363, 601, 779, 366, 367, 611, 612, 846, 848, 37, 849, 850, 852, 38, 853, 613, 614, 595, 593, 594, 854, 856, 39, 857, 858, 860, 40, 861, 625, 627, 629, 631, 633, 635, 637, 639, 641, 643, 645, 647, 649, 651, 653, 655, 657, 659, 661, 663, 665, 667, 669, 671, 673, 675, 677, 679, 681, 683, 685, 687, 689, 691, 693, 695, 697, 699, 701, 703, 705, 707, 709] rfl (by decide +kernel)
set_option maxRecDepth 100000 in
theorem gL_law_X6_width : GoodIn lw_tbl (wsV RL 93 RX6 yX6_width wsX6_width) := goodIn_app (goodIn_of _ (by decide +kernel)) gg0_X6_width

set_option maxRecDepth 100000 in
theorem gg0_X6_years : GoodIn lw_tbl wsX6_years := goodIn_r _ [749, 582, 750, 752, 22, 51, 753, 583, 584, 585, 729, 741, 743, 21, 744, 745, 362, 53, 363, 733, 734, 735, 736, 730, 731, 732, 723, 724, 725, 726, 727, 728, 717, 718, 719, 720, 721, 722, 625, 627, 629, 631, 633, 635, 637, 639, 641, 643, 645, 647, 649, 651, 653, 655, 657, 659, 661, 663, 665, 667, 669, 671, 673, 675, 677, 679, 681, 683, 685, 687, 689, 691, 693, 695, 697, 699, 701, 703, 705, 707, 709] rfl (by decide +kernel)
set_option maxRecDepth 100000 in
theorem gL_law_X6_years : GoodIn lw_tbl (wsV RL 26 RX6 yX6_years wsX6_years) := goodIn_app (goodIn_of _ (by decide +kernel)) gg0_X6_years

set_option maxRecDepth 100000 in
theorem inL_X1 : ∀ w ∈ wsX10, w ∈ lw_tbl := fun w h => (goodIn_r wsX10 [114, 116, 118, 120, 122, 124, 126, 128, 130] rfl (by decide +kernel) w h).1

set_option maxRecDepth 100000 in
theorem inL_X2 : ∀ w ∈ wsX20, w ∈ lw_tbl := fun w h => (goodIn_r wsX20 [161, 163, 165, 167, 169, 171, 173, 175, 177, 179, 181, 183, 185, 187] rfl (by decide +kernel) w h).1

set_option maxRecDepth 100000 in
theorem inL_X3 : ∀ w ∈ wsX30, w ∈ lw_tbl := fun w h => (goodIn_r wsX30 [209, 211, 213, 215, 217, 219, 221, 223, 225] rfl (by decide +kernel) w h).1

set_option maxRecDepth 100000 in
theorem inL_X4 : ∀ w ∈ wsX40, w ∈ lw_tbl := fun w h => (goodIn_r wsX40 [85, 87, 89] rfl (by decide +kernel) w h).1

set_option maxRecDepth 100000 in
theorem inL_X5 : ∀ w ∈ wsX50, w ∈ lw_tbl := fun w h => (goodIn_r wsX50 [239, 241, 243, 245, 247, 249, 251, 253, 255, 257, 259] rfl (by decide +kernel) w h).1

set_option maxRecDepth 100000 in
theorem inL_X6 : ∀ w ∈ wsX60, w ∈ lw_tbl := fun w h => (goodIn_r wsX60 [625, 627, 629, 631, 633, 635, 637, 639, 641, 643, 645, 647, 649, 651, 653, 655, 657, 659, 661, 663, 665, 667, 669, 671, 673, 675, 677, 679, 681, 683, 685, 687, 689, 691, 693, 695, 697, 699, 701, 703, 705, 707, 709] rfl (by decide +kernel) w h).1
