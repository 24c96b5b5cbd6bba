set_option maxRecDepth 20000 in
theorem ggL_law_X7_made : GoodIn wsL_law wsX7_made := goodIn_r _ [701, 22, 497, 96, 540, 541, 542, 21, 543, 374, 544, 545, 2, 546, 499, 500, 501, 100, 101, 102, 554, 555, 556, 557, 26, 558, 559, 560, 34, 561, 74, 562, 563, 564, 565, 527, 528, 529, 566, 567, 568, 569, 71, 570, 378, 379, 380, 381, 382, 383, 384, 52, 385, 386, 387, 54, 388, 364, 365, 389, 390, 391, 392, 393, 394, 366, 367, 368, 369, 571, 474, 475, 476, 572, 573, 574, 575, 478, 479, 576, 577, 578, 579, 580, 581, 582, 583, 584, 585, 586, 587, 588, 72, 589, 702, 703, 704, 705, 706, 591, 592, 593, 594, 595, 596, 597, 598, 599, 600, 601, 602, 603, 604, 605, 606, 607, 608, 609, 610, 976, 977, 978, 979, 980, 981, 982, 983, 984, 1013, 1014, 1015, 1016, 1017, 1018, 1024, 1025, 1026, 1027, 1028, 1029, 1032, 1033, 1034, 1035, 1036, 1037, 1038, 1039, 1040, 1041, 1042, 1043] (by decide +kernel) (by decide +kernel)
set_option maxRecDepth 20000 in
theorem gL_law_X7_made : GoodIn wsL_law (wsV RL 82 RX7 yX7_made wsX7_made) := goodIn_app (goodIn_of _ (by decide +kernel)) ggL_law_X7_made
set_option maxRecDepth 20000 in
theorem ggL_law_X8_made : GoodIn wsL_law wsX8_made := goodIn_r _ [710, 506, 215, 123, 619, 620, 621, 5, 622, 84, 623, 624, 625, 626, 507, 508, 509, 510, 128, 129, 130, 711, 712, 713, 714, 631, 632, 633, 634, 635, 636, 637, 638, 639, 640, 641, 642, 643, 488, 489, 490, 491, 644, 645, 646, 647, 648, 649, 650, 651, 652, 653, 654, 655, 423, 656, 657, 658, 659, 985, 986, 987, 988, 989, 990, 991, 992, 993, 994, 995, 996, 997, 998, 999, 1000, 1001, 1002, 1003, 1004, 1005] (by decide +kernel) (by decide +kernel)
set_option maxRecDepth 20000 in
theorem gL_law_X8_made : GoodIn wsL_law (wsV RL 85 RX8 yX8_made wsX8_made) := goodIn_app (goodIn_of _ (by decide +kernel)) ggL_law_X8_made
set_option maxRecDepth 20000 in
theorem ggL_law_X7_best : GoodIn wsL_law wsX7_best := goodIn_r _ [718, 22, 497, 96, 540, 541, 542, 21, 543, 374, 544, 545, 2, 546, 499, 500, 501, 100, 101, 102, 554, 555, 556, 557, 26, 558, 559, 560, 34, 561, 74, 562, 563, 564, 565, 527, 528, 529, 566, 567, 568, 569, 71, 570, 378, 379, 380, 381, 382, 383, 384, 52, 385, 386, 387, 54, 388, 364, 365, 389, 390, 391, 392, 393, 394, 366, 367, 368, 369, 571, 474, 475, 476, 572, 573, 574, 575, 478, 479, 576, 577, 578, 579, 580, 581, 582, 583, 584, 585, 586, 587, 588, 72, 589, 719, 720, 721, 722, 723, 703, 704, 705, 706, 591, 592, 593, 594, 595, 596, 597, 598, 599, 600, 601, 602, 603, 604, 605, 606, 607, 608, 609, 610, 702, 976, 977, 978, 979, 980, 981, 982, 983, 984, 1013, 1014, 1015, 1016, 1017, 1018, 1024, 1025, 1026, 1027, 1028, 1029, 1032, 1033, 1034, 1035, 1036, 1037, 1038, 1039, 1040, 1041, 1042, 1043] (by decide +kernel) (by decide +kernel)
set_option maxRecDepth 20000 in
theorem gL_law_X7_best : GoodIn wsL_law (wsV RL 86 RX7 yX7_best wsX7_best) := goodIn_app (goodIn_of _ (by decide +kernel)) ggL_law_X7_best
set_option maxRecDepth 20000 in
theorem ggL_law_X8_best : GoodIn wsL_law wsX8_best := goodIn_r _ [727, 506, 123, 619, 620, 621, 5, 622, 84, 623, 624, 625, 626, 507, 508, 509, 510, 128, 129, 130, 728, 729, 730, 731, 711, 712, 713, 714, 631, 632, 633, 634, 635, 636, 637, 638, 639, 640, 641, 642, 643, 488, 489, 490, 491, 644, 645, 646, 647, 648, 649, 650, 651, 652, 653, 654, 655, 423, 656, 657, 658, 659, 732, 733, 734, 985, 986, 987, 988, 989, 990, 991, 992, 993, 994, 995, 996, 997, 998, 999, 1000, 1001, 1002, 1003, 1004, 1005] (by decide +kernel) (by decide +kernel)
set_option maxRecDepth 20000 in
theorem gL_law_X8_best : GoodIn wsL_law (wsV RL 89 RX8 yX8_best wsX8_best) := goodIn_app (goodIn_of _ (by decide +kernel)) ggL_law_X8_best
set_option maxRecDepth 20000 in
theorem ggL_law_X7_part : GoodIn wsL_law wsX7_part := goodIn_r _ [738, 22, 96, 223, 739, 544, 545, 2, 546, 499, 500, 501, 100, 101, 102, 473, 474, 475, 21, 476, 374, 554, 555, 556, 557, 26, 558, 559, 560, 34, 561, 74, 562, 563, 564, 565, 527, 528, 529, 566, 567, 568, 569, 71, 570, 378, 379, 380, 381, 382, 383, 384, 52, 385, 386, 387, 54, 388, 364, 365, 389, 390, 391, 392, 393, 394, 366, 367, 368, 369, 571, 572, 573, 574, 575, 478, 479, 576, 577, 578, 579, 580, 581, 582, 583, 584, 585, 586, 587, 588, 72, 589, 719, 720, 721, 722, 723, 703, 704, 705, 706, 591, 592, 593, 594, 595, 596, 597, 598, 599, 600, 601, 602, 603, 604, 605, 606, 607, 608, 609, 610, 702, 740, 741, 742, 743, 744, 745, 746, 976, 977, 978, 979, 980, 981, 982, 983, 984, 1013, 1014, 1015, 1016, 1017, 1018, 1024, 1025, 1026, 1027, 1028, 1029, 1032, 1033, 1034, 1035, 1036, 1037, 1038, 1039, 1040, 1041, 1042, 1043] (by decide +kernel) (by decide +kernel)
set_option maxRecDepth 20000 in
theorem gL_law_X7_part : GoodIn wsL_law (wsV RL 90 RX7 yX7_part wsX7_part) := goodIn_app (goodIn_of _ (by decide +kernel)) ggL_law_X7_part
set_option maxRecDepth 20000 in
theorem ggL_law_X8_part : GoodIn wsL_law wsX8_part := goodIn_r _ [750, 123, 84, 631, 623, 624, 5, 625, 626, 507, 508, 509, 510, 128, 129, 130, 484, 485, 486, 487, 728, 729, 730, 731, 711, 712, 713, 714, 632, 633, 634, 635, 636, 637, 638, 639, 640, 641, 642, 643, 488, 489, 490, 491, 644, 645, 646, 647, 648, 649, 650, 651, 652, 653, 654, 655, 423, 656, 657, 658, 659, 732, 733, 734, 751, 752, 753, 754, 985, 986, 987, 988, 989, 990, 991, 992, 993, 994, 995, 996, 997, 998, 999, 1000, 1001, 1002, 1003, 1004, 1005] (by decide +kernel) (by decide +kernel)
set_option maxRecDepth 20000 in
theorem gL_law_X8_part : GoodIn wsL_law (wsV RL 93 RX8 yX8_part wsX8_part) := goodIn_app (goodIn_of _ (by decide +kernel)) ggL_law_X8_part
set_option maxRecDepth 20000 in
theorem ggL_law_X7_still : GoodIn wsL_law wsX7_still := goodIn_r _ [758, 22, 96, 759, 544, 545, 2, 546, 499, 500, 501, 100, 101, 102, 473, 474, 475, 21, 476, 374, 554, 555, 556, 557, 26, 558, 559, 560, 34, 561, 74, 562, 563, 564, 565, 527, 528, 529, 566, 567, 568, 569, 71, 570, 378, 379, 380, 381, 382, 383, 384, 52, 385, 386, 387, 54, 388, 364, 365, 389, 390, 391, 392, 393, 394, 366, 367, 368, 369, 571, 572, 573, 574, 575, 478, 479, 576, 577, 578, 579, 580, 581, 582, 583, 584, 585, 586, 587, 588, 72, 589, 760, 761, 762, 763, 744, 745, 746, 706, 591, 592, 593, 594, 595, 596, 597, 598, 599, 600, 601, 602, 603, 604, 605, 606, 607, 608, 609, 610, 740, 741, 742, 743, 477, 976, 977, 978, 979, 980, 981, 982, 983, 984, 1013, 1014, 1015, 1016, 1017, 1018, 1024, 1025, 1026, 1027, 1028, 1029, 1032, 1033, 1034, 1035, 1036, 1037, 1038, 1039, 1040, 1041, 1042, 1043] (by decide +kernel) (by decide +kernel)
set_option maxRecDepth 20000 in
theorem gL_law_X7_still : GoodIn wsL_law (wsV RL 94 RX7 yX7_still wsX7_still) := goodIn_app (goodIn_of _ (by decide +kernel)) ggL_law_X7_still
set_option maxRecDepth 20000 in
theorem ggL_law_X8_still : GoodIn wsL_law wsX8_still := goodIn_r _ [767, 122, 123, 631, 84, 623, 624, 5, 625, 626, 507, 508, 509, 510, 128, 129, 130, 484, 485, 486, 487, 632, 633, 634, 635, 636, 637, 638, 639, 640, 641, 642, 643, 488, 489, 490, 491, 644, 645, 646, 647, 648, 649, 650, 651, 652, 653, 654, 655, 423, 656, 657, 658, 659, 985, 986, 987, 988, 989, 990, 991, 992, 993, 994, 995, 996, 997, 998, 999, 1000, 1001, 1002, 1003, 1004, 1005] (by decide +kernel) (by decide +kernel)
set_option maxRecDepth 20000 in
theorem gL_law_X8_still : GoodIn wsL_law (wsV RL 97 RX8 yX8_still wsX8_still) := goodIn_app (goodIn_of _ (by decide +kernel)) ggL_law_X8_still
set_option maxRecDepth 20000 in
theorem ggL_law_X7_higher : GoodIn wsL_law wsX7_higher := goodIn_r _ [771, 22, 96, 544, 545, 2, 546, 499, 500, 501, 100, 101, 102, 473, 474, 475, 21, 476, 374, 554, 555, 556, 557, 26, 558, 559, 560, 34, 561, 74, 562, 563, 564, 565, 527, 528, 529, 566, 567, 568, 569, 71, 570, 378, 379, 380, 381, 382, 383, 384, 52, 385, 386, 387, 54, 388, 364, 365, 389, 390, 391, 392, 393, 394, 366, 367, 368, 369, 571, 572, 573, 574, 575, 478, 479, 576, 577, 578, 579, 580, 581, 582, 583, 584, 585, 586, 587, 588, 72, 589, 590, 591, 592, 593, 594, 595, 596, 597, 598, 599, 600, 601, 602, 603, 604, 605, 606, 607, 608, 609, 610, 702, 703, 704, 705, 706, 976, 977, 978, 979, 980, 981, 982, 983, 984, 1013, 1014, 1015, 1016, 1017, 1018, 1024, 1025, 1026, 1027, 1028, 1029, 1032, 1033, 1034, 1035, 1036, 1037, 1038, 1039, 1040, 1041, 1042, 1043] (by decide +kernel) (by decide +kernel)
set_option maxRecDepth 20000 in
theorem gL_law_X7_higher : GoodIn wsL_law (wsV RL 98 RX7 yX7_higher wsX7_higher) := goodIn_app (goodIn_of _ (by decide +kernel)) ggL_law_X7_higher
set_option maxRecDepth 20000 in
theorem ggL_law_X8_higher : GoodIn wsL_law wsX8_higher := goodIn_r _ [775, 122, 123, 631, 623, 624, 5, 625, 626, 507, 508, 509, 510, 128, 129, 130, 484, 485, 486, 487, 84, 488, 489, 490, 491, 776, 777, 778, 779, 632, 633, 634, 635, 636, 637, 638, 639, 640, 641, 642, 643, 644, 645, 646, 647, 648, 649, 650, 651, 652, 653, 654, 655, 423, 656, 657, 658, 659, 985, 986, 987, 988, 989, 990, 991, 992, 993, 994, 995, 996, 997, 998, 999, 1000, 1001, 1002, 1003, 1004, 1005] (by decide +kernel) (by decide +kernel)
set_option maxRecDepth 20000 in
theorem gL_law_X8_higher : GoodIn wsL_law (wsV RL 101 RX8 yX8_higher wsX8_higher) := goodIn_app (goodIn_of _ (by decide +kernel)) ggL_law_X8_higher
set_option maxRecDepth 20000 in
theorem ggL_law_X7_owes : GoodIn wsL_law wsX7_owes := goodIn_r _ [783, 22, 96, 471, 680, 784, 544, 545, 2, 546, 499, 500, 501, 100, 101, 102, 473, 474, 475, 21, 476, 374, 554, 555, 556, 557, 26, 558, 559, 560, 34, 561, 74, 562, 563, 564, 565, 527, 528, 529, 566, 567, 568, 569, 71, 570, 378, 379, 380, 381, 382, 383, 384, 52, 385, 386, 387, 54, 388, 364, 365, 389, 390, 391, 392, 393, 394, 366, 367, 368, 369, 571, 572, 573, 574, 575, 478, 479, 576, 577, 578, 579, 580, 581, 582, 583, 584, 585, 586, 587, 588, 72, 589, 785, 786, 787, 788, 760, 761, 762, 763, 744, 745, 746, 706, 591, 592, 593, 594, 595, 596, 597, 598, 599, 600, 601, 602, 603, 604, 605, 606, 607, 608, 609, 610, 976, 977, 978, 979, 980, 981, 982, 983, 984, 1013, 1014, 1015, 1016, 1017, 1018, 1032, 1033, 1034, 1035, 1036, 1037, 1038, 1039, 1040, 1041, 1042, 1043, 1024, 1025, 1026, 1027, 1028, 1029] (by decide +kernel) (by decide +kernel)
set_option maxRecDepth 20000 in
theorem gL_law_X7_owes : GoodIn wsL_law (wsV RL 102 RX7 yX7_owes wsX7_owes) := goodIn_app (goodIn_of _ (by decide +kernel)) ggL_law_X7_owes
set_option maxRecDepth 20000 in
theorem ggL_law_X8_owes : GoodIn wsL_law wsX8_owes := goodIn_r _ [792, 123, 631, 84, 623, 624, 5, 625, 626, 507, 508, 509, 510, 128, 129, 130, 484, 485, 486, 487, 656, 657, 658, 659, 640, 641, 642, 643, 488, 489, 490, 491, 644, 645, 646, 651, 652, 653, 654, 655, 423, 632, 633, 634, 635, 636, 637, 638, 639, 647, 648, 649, 650, 985, 986, 987, 988, 989, 990, 991, 992, 993, 994, 995, 996, 997, 998, 999, 1000, 1001, 1002, 1003, 1004, 1005] (by decide +kernel) (by decide +kernel)
set_option maxRecDepth 20000 in
theorem gL_law_X8_owes : GoodIn wsL_law (wsV RL 105 RX8 yX8_owes wsX8_owes) := goodIn_app (goodIn_of _ (by decide +kernel)) ggL_law_X8_owes
set_option maxRecDepth 20000 in
theorem ggL_law_X7_night : GoodIn wsL_law wsX7_night := goodIn_r _ [796, 22, 497, 96, 14, 223, 540, 541, 542, 21, 543, 374, 544, 545, 2, 546, 499, 500, 501, 100, 101, 102, 97, 98, 99, 141, 142, 143, 32, 144, 67, 103, 104, 105, 106, 107, 108, 145, 146, 147, 148, 554, 555, 556, 557, 26, 558, 559, 560, 34, 561, 74, 562, 563, 564, 565, 527, 528, 529, 566, 567, 568, 569, 71, 570, 378, 379, 380, 381, 382, 383, 384, 52, 385, 386, 387, 54, 388, 364, 365, 389, 390, 391, 392, 393, 394, 366, 367, 368, 369, 571, 474, 475, 476, 572, 573, 574, 575, 478, 479, 576, 577, 578, 579, 580, 581, 582, 583, 584, 585, 586, 587, 588, 72, 589, 797, 798, 799, 800, 175, 739, 801, 802, 803, 804, 805, 806, 807, 808, 809, 594, 595, 596, 597, 598, 599, 600, 601, 602, 603, 604, 605, 606, 607, 608, 609, 610, 114, 115, 116, 117, 976, 977, 978, 979, 980, 981, 982, 983, 984, 1013, 1014, 1015, 1016, 1017, 1018, 1021, 1022, 1023, 1024, 1025, 1026, 1027, 1028, 1029, 1032, 1033, 1034, 1035, 1036, 1037, 1038, 1039, 1040, 1041, 1042, 1043] (by decide +kernel) (by decide +kernel)
set_option maxRecDepth 20000 in
theorem gL_law_X7_night : GoodIn wsL_law (wsV RL 106 RX7 yX7_night wsX7_night) := goodIn_app (goodIn_of _ (by decide +kernel)) ggL_law_X7_night
set_option maxRecDepth 20000 in
theorem ggL_law_X8_night : GoodIn wsL_law wsX8_night := goodIn_r _ [813, 506, 674, 123, 81, 84, 631, 619, 620, 621, 5, 622, 623, 624, 625, 626, 507, 508, 509, 510, 128, 129, 130, 124, 125, 126, 127, 161, 162, 163, 164, 80, 131, 132, 133, 134, 135, 136, 644, 645, 646, 488, 489, 490, 491, 814, 815, 816, 817, 82, 636, 637, 638, 639, 640, 641, 642, 643, 647, 648, 649, 650, 651, 652, 653, 654, 655, 423, 656, 657, 658, 659, 985, 986, 987, 988, 989, 990, 991, 992, 993, 994, 995, 996, 997, 998, 999, 1000, 1001, 1002, 1003, 1004, 1005] (by decide +kernel) (by decide +kernel)
set_option maxRecDepth 20000 in
theorem gL_law_X8_night : GoodIn wsL_law (wsV RL 109 RX8 yX8_night wsX8_night) := goodIn_app (goodIn_of _ (by decide +kernel)) ggL_law_X8_night
set_option maxRecDepth 20000 in
theorem ggL_law_X7_years : GoodIn wsL_law wsX7_years := goodIn_r _ [821, 22, 497, 822, 96, 26, 823, 824, 825, 826, 540, 541, 542, 21, 543, 374, 473, 474, 475, 476, 100, 101, 2, 102, 558, 559, 560, 34, 561, 74, 562, 563, 564, 565, 527, 528, 529, 566, 567, 568, 569, 71, 570, 378, 379, 380, 381, 382, 383, 384, 52, 385, 386, 387, 54, 388, 364, 365, 389, 390, 391, 392, 393, 394, 366, 367, 368, 369, 571, 572, 573, 574, 575, 478, 479, 576, 577, 578, 579, 580, 581, 582, 583, 584, 585, 586, 587, 588, 72, 589, 827, 828, 829, 830, 595, 596, 597, 598, 599, 600, 601, 602, 603, 604, 605, 606, 607, 608, 609, 610, 831, 976, 977, 978, 979, 980, 981, 982, 983, 984, 1013, 1014, 1015, 1016, 1017, 1018, 1024, 1025, 1026, 1027, 1028, 1029, 1032, 1033, 1034, 1035, 1036, 1037, 1038, 1039, 1040, 1041, 1042, 1043] (by decide +kernel) (by decide +kernel)
set_option maxRecDepth 20000 in
theorem gL_law_X7_years : GoodIn wsL_law (wsV RL 110 RX7 yX7_years wsX7_years) := goodIn_app (goodIn_of _ (by decide +kernel)) ggL_law_X7_years
set_option maxRecDepth 20000 in
theorem ggL_law_X8_years : GoodIn wsL_law wsX8_years := goodIn_r _ [835, 506, 836, 837, 123, 838, 839, 840, 841, 84, 631, 619, 620, 621, 5, 622, 128, 129, 130, 484, 485, 486, 487, 636, 637, 638, 639, 640, 641, 642, 643, 488, 489, 490, 491, 644, 645, 646, 647, 648, 649, 650, 651, 652, 653, 654, 655, 423, 656, 657, 658, 659, 985, 986, 987, 988, 989, 990, 991, 992, 993, 994, 995, 996, 997, 998, 999, 1000, 1001, 1002, 1003, 1004, 1005] (by decide +kernel) (by decide +kernel)
set_option maxRecDepth 20000 in
theorem gL_law_X8_years : GoodIn wsL_law (wsV RL 113 RX8 yX8_years wsX8_years) := goodIn_app (goodIn_of _ (by decide +kernel)) ggL_law_X8_years
set_option maxRecDepth 20000 in
theorem ggL_law_X7_image : GoodIn wsL_law wsX7_image := goodIn_r _ [845, 96, 22, 497, 24, 100, 101, 2, 102, 540, 541, 542, 21, 543, 374, 377, 378, 379, 380, 381, 382, 383, 384, 52, 385, 386, 387, 54, 388, 364, 365, 389, 390, 391, 392, 393, 394, 366, 367, 368, 369, 976, 977, 978, 979, 980, 981, 982, 983, 984, 1013, 1014, 1015, 1016, 1017, 1018, 1032, 1033, 1034, 1035, 1036, 1037, 1038, 1039, 1040, 1041, 1042, 1043] (by decide +kernel) (by decide +kernel)
set_option maxRecDepth 20000 in
theorem gL_law_X7_image : GoodIn wsL_law (wsV RL 114 RX7 yX7_image wsX7_image) := goodIn_app (goodIn_of _ (by decide +kernel)) ggL_law_X7_image
set_option maxRecDepth 20000 in
theorem ggL_law_X8_image : GoodIn wsL_law wsX8_image := goodIn_r _ [849, 123, 506, 84, 85, 86, 128, 129, 5, 130, 619, 620, 621, 622, 456, 457, 458, 985, 986, 987, 988, 989, 990, 991, 992, 993, 994, 995, 996, 997, 998, 999, 1000, 1001, 1002, 1003, 1004, 1005] (by decide +kernel) (by decide +kernel)
set_option maxRecDepth 20000 in
theorem gL_law_X8_image : GoodIn wsL_law (wsV RL 117 RX8 yX8_image wsX8_image) := goodIn_app (goodIn_of _ (by decide +kernel)) ggL_law_X8_image
set_option maxRecDepth 20000 in
theorem ggL_law_X7_restore : GoodIn wsL_law wsX7_restore := goodIn_r _ [853, 96, 24, 497, 22, 100, 101, 2, 102, 540, 541, 542, 21, 543, 374, 377, 378, 379, 380, 381, 382, 383, 384, 52, 385, 386, 387, 54, 388, 364, 365, 389, 390, 391, 392, 393, 394, 366, 367, 368, 369, 976, 977, 978, 979, 980, 981, 982, 983, 984, 1013, 1014, 1015, 1016, 1017, 1018, 1032, 1033, 1034, 1035, 1036, 1037, 1038, 1039, 1040, 1041, 1042, 1043] (by decide +kernel) (by decide +kernel)
set_option maxRecDepth 20000 in
theorem gL_law_X7_restore : GoodIn wsL_law (wsV RL 118 RX7 yX7_restore wsX7_restore) := goodIn_app (goodIn_of _ (by decide +kernel)) ggL_law_X7_restore
set_option maxRecDepth 20000 in
theorem ggL_law_X8_restore : GoodIn wsL_law wsX8_restore := goodIn_r _ [857, 123, 85, 86, 506, 84, 128, 129, 5, 130, 456, 457, 458, 985, 986, 987, 988, 989, 990, 991, 992, 993, 994, 995, 996, 997, 998, 999, 1000, 1001, 1002, 1003, 1004, 1005] (by decide +kernel) (by decide +kernel)
set_option maxRecDepth 20000 in
theorem gL_law_X8_restore : GoodIn wsL_law (wsV RL 121 RX8 yX8_restore wsX8_restore) := goodIn_app (goodIn_of _ (by decide +kernel)) ggL_law_X8_restore
set_option maxRecDepth 20000 in
theorem ggL_law_X7_kind : GoodIn wsL_law wsX7_kind := goodIn_r _ [861, 22, 471, 496, 96, 473, 474, 475, 21, 476, 374, 976, 977, 978, 979, 980, 981, 982, 983, 984, 1013, 1014, 1015, 1016, 1017, 1018, 1032, 1033, 1034, 1035, 1036, 1037, 1038, 1039, 1040, 1041, 1042, 1043] (by decide +kernel) (by decide +kernel)
set_option maxRecDepth 20000 in
theorem gL_law_X7_kind : GoodIn wsL_law (wsV RL 122 RX7 yX7_kind wsX7_kind) := goodIn_app (goodIn_of _ (by decide +kernel)) ggL_law_X7_kind
set_option maxRecDepth 20000 in
theorem ggL_law_X8_kind : GoodIn wsL_law wsX8_kind := goodIn_r _ [865, 84, 123, 484, 485, 486, 5, 487, 128, 129, 130, 985, 986, 987, 988, 989, 990, 991, 992, 993, 994, 995, 996, 997, 998, 999, 1000, 1001, 1002, 1003, 1004, 1005] (by decide +kernel) (by decide +kernel)
set_option maxRecDepth 20000 in
theorem gL_law_X8_kind : GoodIn wsL_law (wsV RL 125 RX8 yX8_kind wsX8_kind) := goodIn_app (goodIn_of _ (by decide +kernel)) ggL_law_X8_kind
set_option maxRecDepth 20000 in
theorem ggL_law_X7_as : GoodIn wsL_law wsX7_as := goodIn_r _ [869, 22, 96, 471, 496, 473, 474, 475, 21, 476, 374, 100, 101, 2, 102, 870, 871, 872, 873, 114, 115, 116, 117, 107, 103, 104, 105, 106, 108, 976, 977, 978, 979, 980, 981, 982, 983, 984, 1013, 1014, 1015, 1016, 1017, 1018, 1032, 1033, 1034, 1035, 1036, 1037, 1038, 1039, 1040, 1041, 1042, 1043] (by decide +kernel) (by decide +kernel)
set_option maxRecDepth 20000 in
theorem gL_law_X7_as : GoodIn wsL_law (wsV RL 126 RX7 yX7_as wsX7_as) := goodIn_app (goodIn_of _ (by decide +kernel)) ggL_law_X7_as
set_option maxRecDepth 20000 in
theorem ggL_law_X8_as : GoodIn wsL_law wsX8_as := goodIn_r _ [877, 878, 123, 84, 484, 485, 486, 5, 487, 128, 129, 130, 879, 880, 881, 131, 132, 133, 134, 135, 136, 985, 986, 987, 988, 989, 990, 991, 992, 993, 994, 995, 996, 997, 998, 999, 1000, 1001, 1002, 1003, 1004, 1005] (by decide +kernel) (by decide +kernel)
set_option maxRecDepth 20000 in
theorem gL_law_X8_as : GoodIn wsL_law (wsV RL 129 RX8 yX8_as wsX8_as) := goodIn_app (goodIn_of _ (by decide +kernel)) ggL_law_X8_as
set_option maxRecDepth 20000 in
theorem ggL_law_X7_ask : GoodIn wsL_law wsX7_ask := goodIn_r _ [885, 22, 96, 471, 30, 886, 473, 474, 475, 21, 476, 374, 100, 101, 2, 102, 887, 888, 889, 496, 890, 891, 892, 893, 894, 895, 896, 897, 551, 898, 515, 680, 899, 900, 901, 29, 902, 903, 62, 976, 977, 978, 979, 980, 981, 982, 983, 984, 1013, 1014, 1015, 1016, 1017, 1018, 1019, 1020, 1032, 1033, 1034, 1035, 1036, 1037, 1038, 1039, 1040, 1041, 1042, 1043] (by decide +kernel) (by decide +kernel)
set_option maxRecDepth 20000 in
theorem gL_law_X7_ask : GoodIn wsL_law (wsV RL 130 RX7 yX7_ask wsX7_ask) := goodIn_app (goodIn_of _ (by decide +kernel)) ggL_law_X7_ask
set_option maxRecDepth 20000 in
theorem ggL_law_X8_ask : GoodIn wsL_law wsX8_ask := goodIn_r _ [907, 123, 908, 484, 485, 486, 5, 487, 84, 128, 129, 130, 909, 910, 911, 912, 913, 914, 915, 916, 88, 917, 918, 919, 920, 921, 922, 923, 924, 488, 489, 490, 491, 925, 926, 927, 928, 929, 930, 931, 932, 933, 934, 935, 936, 937, 938, 939, 940, 985, 986, 987, 988, 989, 990, 991, 992, 993, 994, 995, 996, 997, 998, 999, 1000, 1001, 1002, 1003, 1004, 1005] (by decide +kernel) (by decide +kernel)
set_option maxRecDepth 20000 in
theorem gL_law_X8_ask : GoodIn wsL_law (wsV RL 133 RX8 yX8_ask wsX8_ask) := goodIn_app (goodIn_of _ (by decide +kernel)) ggL_law_X8_ask
set_option maxRecDepth 20000 in
theorem ggL_law_X7_trace : GoodIn wsL_law wsX7_trace := goodIn_r _ [944, 30, 886, 945, 739, 976, 977, 978, 979, 980, 981, 982, 983, 984, 1019, 1020] (by decide +kernel) (by decide +kernel)
set_option maxRecDepth 20000 in
theorem gL_law_X7_trace : GoodIn wsL_law (wsV RL 134 RX7 yX7_trace wsX7_trace) := goodIn_app (goodIn_of _ (by decide +kernel)) ggL_law_X7_trace
set_option maxRecDepth 20000 in
theorem ggL_law_X8_trace : GoodIn wsL_law wsX8_trace := goodIn_r _ [949, 908, 88, 631, 128, 129, 5, 130, 985, 986, 987, 988, 989, 990, 991, 992, 993, 994, 995, 996, 997, 998, 999, 1000, 1001, 1002, 1003, 1004, 1005] (by decide +kernel) (by decide +kernel)
set_option maxRecDepth 20000 in
theorem gL_law_X8_trace : GoodIn wsL_law (wsV RL 137 RX8 yX8_trace wsX8_trace) := goodIn_app (goodIn_of _ (by decide +kernel)) ggL_law_X8_trace
set_option maxRecDepth 20000 in
theorem ggL_law_X7_count : GoodIn wsL_law wsX7_count := goodIn_r _ [953, 22, 223, 553, 18, 200, 201, 96, 954, 955, 956, 2, 957, 14, 141, 142, 143, 32, 144, 67, 477, 478, 479, 958, 959, 960, 21, 961, 374, 52, 962, 801, 802, 803, 804, 805, 963, 605, 606, 607, 608, 609, 610, 976, 977, 978, 979, 980, 981, 982, 983, 984, 1013, 1014, 1015, 1016, 1017, 1018, 1006, 1007, 1008, 1009, 1010, 1011, 1012, 1030, 1031, 1021, 1022, 1023, 1032, 1033, 1034, 1035, 1036, 1037, 1038, 1039, 1040, 1041, 1042, 1043] (by decide +kernel) (by decide +kernel)
set_option maxRecDepth 20000 in
theorem gL_law_X7_count : GoodIn wsL_law (wsV RL 138 RX7 yX7_count wsX7_count) := goodIn_app (goodIn_of _ (by decide +kernel)) ggL_law_X7_count
set_option maxRecDepth 20000 in
theorem ggL_law_X8_count : GoodIn wsL_law wsX8_count := goodIn_r _ [967, 84, 213, 123, 161, 162, 163, 5, 164, 80, 488, 489, 490, 491, 985, 986, 987, 988, 989, 990, 991, 992, 993, 994, 995, 996, 997, 998, 999, 1000, 1001, 1002, 1003, 1004, 1005] (by decide +kernel) (by decide +kernel)
set_option maxRecDepth 20000 in
theorem gL_law_X8_count : GoodIn wsL_law (wsV RL 141 RX8 yX8_count wsX8_count) := goodIn_app (goodIn_of _ (by decide +kernel)) ggL_law_X8_count
set_option maxRecDepth 20000 in
theorem ggL_law_X7_status : GoodIn wsL_law wsX7_status := goodIn_r _ [971, 107, 976, 977, 978, 979, 980, 981, 982, 983, 984] (by decide +kernel) (by decide +kernel)
set_option maxRecDepth 20000 in
theorem gL_law_X7_status : GoodIn wsL_law (wsV RL 142 RX7 yX7_status wsX7_status) := goodIn_app (goodIn_of _ (by decide +kernel)) ggL_law_X7_status
set_option maxRecDepth 20000 in
theorem ggL_law_X8_status : GoodIn wsL_law wsX8_status := goodIn_r _ [975, 135, 985, 986, 987, 988, 989, 990, 991, 992, 993, 994, 995, 996, 997, 998, 999, 1000, 1001, 1002, 1003, 1004, 1005] (by decide +kernel) (by decide +kernel)
set_option maxRecDepth 20000 in
theorem gL_law_X8_status : GoodIn wsL_law (wsV RL 145 RX8 yX8_status wsX8_status) := goodIn_app (goodIn_of _ (by decide +kernel)) ggL_law_X8_status
