set_option maxRecDepth 20000 in
theorem ggL_law_X7_made : GoodIn wsL_law wsX7_made := goodIn_r _ [703, 26, 498, 98, 541, 542, 543, 25, 544, 375, 545, 546, 2, 547, 500, 501, 502, 102, 103, 104, 555, 556, 557, 558, 30, 559, 560, 561, 38, 562, 563, 564, 76, 565, 566, 77, 567, 74, 568, 569, 570, 56, 571, 370, 366, 369, 479, 480, 572, 573, 574, 575, 576, 577, 528, 529, 530, 578, 579, 580, 581, 582, 583, 584, 585, 586, 587, 588, 589, 590, 75, 591, 704, 705, 706, 707, 708, 593, 594, 595, 596, 597, 598, 599, 600, 601, 602, 603, 604, 605, 606, 607, 608, 609, 610, 611, 612, 978, 979, 980, 981, 982, 983, 984, 985, 986, 987, 1018, 1019, 1020, 1021, 1022, 1023, 1029, 1030, 1031, 1032, 1033, 1034, 1035, 1036, 1037, 1038, 1039, 1040, 1041, 1042, 1043, 1044, 1045, 1046] (by decide +kernel) (by decide +kernel)
set_option maxRecDepth 20000 in
theorem gL_law_X7_made : GoodIn wsL_law (wsV RL 82 RX7 yX7_made wsX7_made) := goodIn_app (goodIn_of _ (by decide +kernel)) ggL_law_X7_made
set_option maxRecDepth 20000 in
theorem ggL_law_X8_made : GoodIn wsL_law wsX8_made := goodIn_r _ [712, 507, 216, 125, 621, 622, 623, 5, 624, 86, 625, 626, 627, 628, 508, 509, 510, 511, 130, 131, 132, 713, 714, 715, 716, 633, 634, 635, 636, 637, 638, 639, 640, 641, 642, 643, 644, 645, 489, 490, 491, 492, 646, 647, 648, 649, 650, 651, 652, 653, 654, 655, 656, 657, 424, 658, 659, 660, 661, 988, 989, 990, 991, 992, 993, 994, 995, 996, 997, 998, 999, 1000, 1001, 1002, 1003, 1004, 1005, 1006, 1007, 1008] (by decide +kernel) (by decide +kernel)
set_option maxRecDepth 20000 in
theorem gL_law_X8_made : GoodIn wsL_law (wsV RL 85 RX8 yX8_made wsX8_made) := goodIn_app (goodIn_of _ (by decide +kernel)) ggL_law_X8_made
set_option maxRecDepth 20000 in
theorem ggL_law_X7_best : GoodIn wsL_law wsX7_best := goodIn_r _ [720, 26, 498, 98, 541, 542, 543, 25, 544, 375, 545, 546, 2, 547, 500, 501, 502, 102, 103, 104, 555, 556, 557, 558, 30, 559, 560, 561, 38, 562, 563, 564, 76, 565, 566, 77, 567, 74, 568, 569, 570, 56, 571, 370, 366, 369, 479, 480, 572, 573, 574, 575, 576, 577, 528, 529, 530, 578, 579, 580, 581, 582, 583, 584, 585, 586, 587, 588, 589, 590, 75, 591, 721, 722, 723, 724, 725, 705, 706, 707, 708, 593, 594, 595, 596, 597, 598, 599, 600, 601, 602, 603, 604, 605, 606, 607, 608, 609, 610, 611, 612, 704, 978, 979, 980, 981, 982, 983, 984, 985, 986, 987, 1018, 1019, 1020, 1021, 1022, 1023, 1029, 1030, 1031, 1032, 1033, 1034, 1035, 1036, 1037, 1038, 1039, 1040, 1041, 1042, 1043, 1044, 1045, 1046] (by decide +kernel) (by decide +kernel)
set_option maxRecDepth 20000 in
theorem gL_law_X7_best : GoodIn wsL_law (wsV RL 86 RX7 yX7_best wsX7_best) := goodIn_app (goodIn_of _ (by decide +kernel)) ggL_law_X7_best
set_option maxRecDepth 20000 in
theorem ggL_law_X8_best : GoodIn wsL_law wsX8_best := goodIn_r _ [729, 507, 125, 621, 622, 623, 5, 624, 86, 625, 626, 627, 628, 508, 509, 510, 511, 130, 131, 132, 730, 731, 732, 733, 713, 714, 715, 716, 633, 634, 635, 636, 637, 638, 639, 640, 641, 642, 643, 644, 645, 489, 490, 491, 492, 646, 647, 648, 649, 650, 651, 652, 653, 654, 655, 656, 657, 424, 658, 659, 660, 661, 734, 735, 736, 988, 989, 990, 991, 992, 993, 994, 995, 996, 997, 998, 999, 1000, 1001, 1002, 1003, 1004, 1005, 1006, 1007, 1008] (by decide +kernel) (by decide +kernel)
set_option maxRecDepth 20000 in
theorem gL_law_X8_best : GoodIn wsL_law (wsV RL 89 RX8 yX8_best wsX8_best) := goodIn_app (goodIn_of _ (by decide +kernel)) ggL_law_X8_best
set_option maxRecDepth 20000 in
theorem ggL_law_X7_part : GoodIn wsL_law wsX7_part := goodIn_r _ [740, 26, 98, 224, 741, 545, 546, 2, 547, 500, 501, 502, 102, 103, 104, 474, 475, 476, 25, 477, 375, 555, 556, 557, 558, 30, 559, 560, 561, 38, 562, 563, 564, 76, 565, 566, 77, 567, 74, 568, 569, 570, 56, 571, 370, 366, 369, 479, 480, 572, 573, 574, 575, 576, 577, 528, 529, 530, 578, 579, 580, 581, 582, 583, 584, 585, 586, 587, 588, 589, 590, 75, 591, 721, 722, 723, 724, 725, 705, 706, 707, 708, 593, 594, 595, 596, 597, 598, 599, 600, 601, 602, 603, 604, 605, 606, 607, 608, 609, 610, 611, 612, 704, 742, 743, 744, 745, 746, 747, 748, 978, 979, 980, 981, 982, 983, 984, 985, 986, 987, 1018, 1019, 1020, 1021, 1022, 1023, 1029, 1030, 1031, 1032, 1033, 1034, 1035, 1036, 1037, 1038, 1039, 1040, 1041, 1042, 1043, 1044, 1045, 1046] (by decide +kernel) (by decide +kernel)
set_option maxRecDepth 20000 in
theorem gL_law_X7_part : GoodIn wsL_law (wsV RL 90 RX7 yX7_part wsX7_part) := goodIn_app (goodIn_of _ (by decide +kernel)) ggL_law_X7_part
set_option maxRecDepth 20000 in
theorem ggL_law_X8_part : GoodIn wsL_law wsX8_part := goodIn_r _ [752, 125, 86, 633, 625, 626, 5, 627, 628, 508, 509, 510, 511, 130, 131, 132, 485, 486, 487, 488, 730, 731, 732, 733, 713, 714, 715, 716, 634, 635, 636, 637, 638, 639, 640, 641, 642, 643, 644, 645, 489, 490, 491, 492, 646, 647, 648, 649, 650, 651, 652, 653, 654, 655, 656, 657, 424, 658, 659, 660, 661, 734, 735, 736, 753, 754, 755, 756, 988, 989, 990, 991, 992, 993, 994, 995, 996, 997, 998, 999, 1000, 1001, 1002, 1003, 1004, 1005, 1006, 1007, 1008] (by decide +kernel) (by decide +kernel)
set_option maxRecDepth 20000 in
theorem gL_law_X8_part : GoodIn wsL_law (wsV RL 93 RX8 yX8_part wsX8_part) := goodIn_app (goodIn_of _ (by decide +kernel)) ggL_law_X8_part
set_option maxRecDepth 20000 in
theorem ggL_law_X7_still : GoodIn wsL_law wsX7_still := goodIn_r _ [760, 26, 98, 761, 545, 546, 2, 547, 500, 501, 502, 102, 103, 104, 474, 475, 476, 25, 477, 375, 555, 556, 557, 558, 30, 559, 560, 561, 38, 562, 563, 564, 76, 565, 566, 77, 567, 74, 568, 569, 570, 56, 571, 370, 366, 369, 479, 480, 572, 573, 574, 575, 576, 577, 528, 529, 530, 578, 579, 580, 581, 582, 583, 584, 585, 586, 587, 588, 589, 590, 75, 591, 762, 763, 764, 765, 746, 747, 748, 708, 593, 594, 595, 596, 597, 598, 599, 600, 601, 602, 603, 604, 605, 606, 607, 608, 609, 610, 611, 612, 742, 743, 744, 745, 478, 978, 979, 980, 981, 982, 983, 984, 985, 986, 987, 1018, 1019, 1020, 1021, 1022, 1023, 1029, 1030, 1031, 1032, 1033, 1034, 1035, 1036, 1037, 1038, 1039, 1040, 1041, 1042, 1043, 1044, 1045, 1046] (by decide +kernel) (by decide +kernel)
set_option maxRecDepth 20000 in
theorem gL_law_X7_still : GoodIn wsL_law (wsV RL 94 RX7 yX7_still wsX7_still) := goodIn_app (goodIn_of _ (by decide +kernel)) ggL_law_X7_still
set_option maxRecDepth 20000 in
theorem ggL_law_X8_still : GoodIn wsL_law wsX8_still := goodIn_r _ [769, 124, 125, 633, 86, 625, 626, 5, 627, 628, 508, 509, 510, 511, 130, 131, 132, 485, 486, 487, 488, 634, 635, 636, 637, 638, 639, 640, 641, 642, 643, 644, 645, 489, 490, 491, 492, 646, 647, 648, 649, 650, 651, 652, 653, 654, 655, 656, 657, 424, 658, 659, 660, 661, 988, 989, 990, 991, 992, 993, 994, 995, 996, 997, 998, 999, 1000, 1001, 1002, 1003, 1004, 1005, 1006, 1007, 1008] (by decide +kernel) (by decide +kernel)
set_option maxRecDepth 20000 in
theorem gL_law_X8_still : GoodIn wsL_law (wsV RL 97 RX8 yX8_still wsX8_still) := goodIn_app (goodIn_of _ (by decide +kernel)) ggL_law_X8_still
set_option maxRecDepth 20000 in
theorem ggL_law_X7_higher : GoodIn wsL_law wsX7_higher := goodIn_r _ [773, 26, 98, 545, 546, 2, 547, 500, 501, 502, 102, 103, 104, 474, 475, 476, 25, 477, 375, 555, 556, 557, 558, 30, 559, 560, 561, 38, 562, 563, 564, 76, 565, 566, 77, 567, 74, 568, 569, 570, 56, 571, 370, 366, 369, 479, 480, 572, 573, 574, 575, 576, 577, 528, 529, 530, 578, 579, 580, 581, 582, 583, 584, 585, 586, 587, 588, 589, 590, 75, 591, 592, 593, 594, 595, 596, 597, 598, 599, 600, 601, 602, 603, 604, 605, 606, 607, 608, 609, 610, 611, 612, 704, 705, 706, 707, 708, 978, 979, 980, 981, 982, 983, 984, 985, 986, 987, 1018, 1019, 1020, 1021, 1022, 1023, 1029, 1030, 1031, 1032, 1033, 1034, 1035, 1036, 1037, 1038, 1039, 1040, 1041, 1042, 1043, 1044, 1045, 1046] (by decide +kernel) (by decide +kernel)
set_option maxRecDepth 20000 in
theorem gL_law_X7_higher : GoodIn wsL_law (wsV RL 98 RX7 yX7_higher wsX7_higher) := goodIn_app (goodIn_of _ (by decide +kernel)) ggL_law_X7_higher
set_option maxRecDepth 20000 in
theorem ggL_law_X8_higher : GoodIn wsL_law wsX8_higher := goodIn_r _ [777, 124, 125, 633, 625, 626, 5, 627, 628, 508, 509, 510, 511, 130, 131, 132, 485, 486, 487, 488, 86, 489, 490, 491, 492, 778, 779, 780, 781, 634, 635, 636, 637, 638, 639, 640, 641, 642, 643, 644, 645, 646, 647, 648, 649, 650, 651, 652, 653, 654, 655, 656, 657, 424, 658, 659, 660, 661, 988, 989, 990, 991, 992, 993, 994, 995, 996, 997, 998, 999, 1000, 1001, 1002, 1003, 1004, 1005, 1006, 1007, 1008] (by decide +kernel) (by decide +kernel)
set_option maxRecDepth 20000 in
theorem gL_law_X8_higher : GoodIn wsL_law (wsV RL 101 RX8 yX8_higher wsX8_higher) := goodIn_app (goodIn_of _ (by decide +kernel)) ggL_law_X8_higher
set_option maxRecDepth 20000 in
theorem ggL_law_X7_owes : GoodIn wsL_law wsX7_owes := goodIn_r _ [785, 26, 98, 472, 682, 786, 545, 546, 2, 547, 500, 501, 502, 102, 103, 104, 474, 475, 476, 25, 477, 375, 555, 556, 557, 558, 30, 559, 560, 561, 38, 562, 563, 564, 76, 565, 566, 77, 567, 74, 568, 569, 570, 56, 571, 370, 366, 369, 479, 480, 572, 573, 574, 575, 576, 577, 528, 529, 530, 578, 579, 580, 581, 582, 583, 584, 585, 586, 587, 588, 589, 590, 75, 591, 787, 788, 789, 790, 762, 763, 764, 765, 746, 747, 748, 708, 593, 594, 595, 596, 597, 598, 599, 600, 601, 602, 603, 604, 605, 606, 607, 608, 609, 610, 611, 612, 978, 979, 980, 981, 982, 983, 984, 985, 986, 987, 1018, 1019, 1020, 1021, 1022, 1023, 1035, 1036, 1037, 1038, 1039, 1040, 1041, 1042, 1043, 1044, 1045, 1046, 1029, 1030, 1031, 1032, 1033, 1034] (by decide +kernel) (by decide +kernel)
set_option maxRecDepth 20000 in
theorem gL_law_X7_owes : GoodIn wsL_law (wsV RL 102 RX7 yX7_owes wsX7_owes) := goodIn_app (goodIn_of _ (by decide +kernel)) ggL_law_X7_owes
set_option maxRecDepth 20000 in
theorem ggL_law_X8_owes : GoodIn wsL_law wsX8_owes := goodIn_r _ [794, 125, 633, 86, 625, 626, 5, 627, 628, 508, 509, 510, 511, 130, 131, 132, 485, 486, 487, 488, 658, 659, 660, 661, 642, 643, 644, 645, 489, 490, 491, 492, 646, 647, 648, 653, 654, 655, 656, 657, 424, 634, 635, 636, 637, 638, 639, 640, 641, 649, 650, 651, 652, 988, 989, 990, 991, 992, 993, 994, 995, 996, 997, 998, 999, 1000, 1001, 1002, 1003, 1004, 1005, 1006, 1007, 1008] (by decide +kernel) (by decide +kernel)
set_option maxRecDepth 20000 in
theorem gL_law_X8_owes : GoodIn wsL_law (wsV RL 105 RX8 yX8_owes wsX8_owes) := goodIn_app (goodIn_of _ (by decide +kernel)) ggL_law_X8_owes
set_option maxRecDepth 20000 in
theorem ggL_law_X7_night : GoodIn wsL_law wsX7_night := goodIn_r _ [798, 26, 498, 98, 14, 224, 541, 542, 543, 25, 544, 375, 545, 546, 2, 547, 500, 501, 502, 102, 103, 104, 99, 100, 101, 143, 144, 145, 36, 146, 69, 105, 106, 107, 108, 109, 110, 147, 148, 149, 150, 555, 556, 557, 558, 30, 559, 560, 561, 38, 562, 563, 564, 76, 565, 566, 77, 567, 74, 568, 569, 570, 56, 571, 370, 366, 369, 479, 480, 572, 573, 574, 575, 576, 577, 528, 529, 530, 578, 579, 580, 581, 582, 583, 584, 585, 586, 587, 588, 589, 590, 75, 591, 799, 800, 801, 802, 177, 741, 803, 804, 805, 806, 54, 807, 808, 809, 810, 811, 596, 597, 598, 599, 600, 601, 602, 603, 604, 605, 606, 607, 608, 609, 610, 611, 612, 116, 117, 118, 119, 978, 979, 980, 981, 982, 983, 984, 985, 986, 987, 1018, 1019, 1020, 1021, 1022, 1023, 1026, 1027, 1028, 1029, 1030, 1031, 1032, 1033, 1034, 1035, 1036, 1037, 1038, 1039, 1040, 1041, 1042, 1043, 1044, 1045, 1046] (by decide +kernel) (by decide +kernel)
set_option maxRecDepth 20000 in
theorem gL_law_X7_night : GoodIn wsL_law (wsV RL 106 RX7 yX7_night wsX7_night) := goodIn_app (goodIn_of _ (by decide +kernel)) ggL_law_X7_night
set_option maxRecDepth 20000 in
theorem ggL_law_X8_night : GoodIn wsL_law wsX8_night := goodIn_r _ [815, 507, 676, 125, 83, 86, 633, 621, 622, 623, 5, 624, 625, 626, 627, 628, 508, 509, 510, 511, 130, 131, 132, 126, 127, 128, 129, 163, 164, 165, 166, 82, 133, 134, 135, 136, 137, 138, 646, 647, 648, 489, 490, 491, 492, 816, 817, 818, 819, 84, 638, 639, 640, 641, 642, 643, 644, 645, 649, 650, 651, 652, 653, 654, 655, 656, 657, 424, 658, 659, 660, 661, 988, 989, 990, 991, 992, 993, 994, 995, 996, 997, 998, 999, 1000, 1001, 1002, 1003, 1004, 1005, 1006, 1007, 1008] (by decide +kernel) (by decide +kernel)
set_option maxRecDepth 20000 in
theorem gL_law_X8_night : GoodIn wsL_law (wsV RL 109 RX8 yX8_night wsX8_night) := goodIn_app (goodIn_of _ (by decide +kernel)) ggL_law_X8_night
set_option maxRecDepth 20000 in
theorem ggL_law_X7_years : GoodIn wsL_law wsX7_years := goodIn_r _ [823, 26, 498, 824, 98, 30, 825, 826, 827, 828, 541, 542, 543, 25, 544, 375, 474, 475, 476, 477, 102, 103, 2, 104, 559, 560, 561, 38, 562, 563, 564, 76, 565, 566, 77, 567, 74, 568, 569, 570, 56, 571, 370, 366, 369, 479, 480, 572, 573, 574, 575, 576, 577, 528, 529, 530, 578, 579, 580, 581, 582, 583, 584, 585, 586, 587, 588, 589, 590, 75, 591, 829, 830, 831, 832, 597, 598, 599, 600, 601, 602, 603, 604, 605, 606, 607, 608, 609, 610, 611, 612, 833, 978, 979, 980, 981, 982, 983, 984, 985, 986, 987, 1018, 1019, 1020, 1021, 1022, 1023, 1029, 1030, 1031, 1032, 1033, 1034, 1035, 1036, 1037, 1038, 1039, 1040, 1041, 1042, 1043, 1044, 1045, 1046] (by decide +kernel) (by decide +kernel)
set_option maxRecDepth 20000 in
theorem gL_law_X7_years : GoodIn wsL_law (wsV RL 110 RX7 yX7_years wsX7_years) := goodIn_app (goodIn_of _ (by decide +kernel)) ggL_law_X7_years
set_option maxRecDepth 20000 in
theorem ggL_law_X8_years : GoodIn wsL_law wsX8_years := goodIn_r _ [837, 507, 838, 839, 125, 840, 841, 842, 843, 86, 633, 621, 622, 623, 5, 624, 130, 131, 132, 485, 486, 487, 488, 638, 639, 640, 641, 642, 643, 644, 645, 489, 490, 491, 492, 646, 647, 648, 649, 650, 651, 652, 653, 654, 655, 656, 657, 424, 658, 659, 660, 661, 988, 989, 990, 991, 992, 993, 994, 995, 996, 997, 998, 999, 1000, 1001, 1002, 1003, 1004, 1005, 1006, 1007, 1008] (by decide +kernel) (by decide +kernel)
set_option maxRecDepth 20000 in
theorem gL_law_X8_years : GoodIn wsL_law (wsV RL 113 RX8 yX8_years wsX8_years) := goodIn_app (goodIn_of _ (by decide +kernel)) ggL_law_X8_years
set_option maxRecDepth 20000 in
theorem ggL_law_X7_image : GoodIn wsL_law wsX7_image := goodIn_r _ [847, 98, 26, 498, 28, 102, 103, 2, 104, 541, 542, 543, 25, 544, 375, 378, 379, 380, 381, 382, 383, 384, 385, 54, 386, 387, 388, 56, 389, 365, 366, 390, 391, 392, 393, 394, 395, 367, 368, 369, 370, 978, 979, 980, 981, 982, 983, 984, 985, 986, 987, 1018, 1019, 1020, 1021, 1022, 1023, 1035, 1036, 1037, 1038, 1039, 1040, 1041, 1042, 1043, 1044, 1045, 1046] (by decide +kernel) (by decide +kernel)
set_option maxRecDepth 20000 in
theorem gL_law_X7_image : GoodIn wsL_law (wsV RL 114 RX7 yX7_image wsX7_image) := goodIn_app (goodIn_of _ (by decide +kernel)) ggL_law_X7_image
set_option maxRecDepth 20000 in
theorem ggL_law_X8_image : GoodIn wsL_law wsX8_image := goodIn_r _ [851, 125, 507, 86, 87, 88, 130, 131, 5, 132, 621, 622, 623, 624, 457, 458, 459, 988, 989, 990, 991, 992, 993, 994, 995, 996, 997, 998, 999, 1000, 1001, 1002, 1003, 1004, 1005, 1006, 1007, 1008] (by decide +kernel) (by decide +kernel)
set_option maxRecDepth 20000 in
theorem gL_law_X8_image : GoodIn wsL_law (wsV RL 117 RX8 yX8_image wsX8_image) := goodIn_app (goodIn_of _ (by decide +kernel)) ggL_law_X8_image
set_option maxRecDepth 20000 in
theorem ggL_law_X7_restore : GoodIn wsL_law wsX7_restore := goodIn_r _ [855, 98, 28, 498, 26, 102, 103, 2, 104, 541, 542, 543, 25, 544, 375, 378, 379, 380, 381, 382, 383, 384, 385, 54, 386, 387, 388, 56, 389, 365, 366, 390, 391, 392, 393, 394, 395, 367, 368, 369, 370, 978, 979, 980, 981, 982, 983, 984, 985, 986, 987, 1018, 1019, 1020, 1021, 1022, 1023, 1035, 1036, 1037, 1038, 1039, 1040, 1041, 1042, 1043, 1044, 1045, 1046] (by decide +kernel) (by decide +kernel)
set_option maxRecDepth 20000 in
theorem gL_law_X7_restore : GoodIn wsL_law (wsV RL 118 RX7 yX7_restore wsX7_restore) := goodIn_app (goodIn_of _ (by decide +kernel)) ggL_law_X7_restore
set_option maxRecDepth 20000 in
theorem ggL_law_X8_restore : GoodIn wsL_law wsX8_restore := goodIn_r _ [859, 125, 87, 88, 507, 86, 130, 131, 5, 132, 457, 458, 459, 988, 989, 990, 991, 992, 993, 994, 995, 996, 997, 998, 999, 1000, 1001, 1002, 1003, 1004, 1005, 1006, 1007, 1008] (by decide +kernel) (by decide +kernel)
set_option maxRecDepth 20000 in
theorem gL_law_X8_restore : GoodIn wsL_law (wsV RL 121 RX8 yX8_restore wsX8_restore) := goodIn_app (goodIn_of _ (by decide +kernel)) ggL_law_X8_restore
set_option maxRecDepth 20000 in
theorem ggL_law_X7_kind : GoodIn wsL_law wsX7_kind := goodIn_r _ [863, 26, 472, 497, 98, 474, 475, 476, 25, 477, 375, 978, 979, 980, 981, 982, 983, 984, 985, 986, 987, 1018, 1019, 1020, 1021, 1022, 1023, 1035, 1036, 1037, 1038, 1039, 1040, 1041, 1042, 1043, 1044, 1045, 1046] (by decide +kernel) (by decide +kernel)
set_option maxRecDepth 20000 in
theorem gL_law_X7_kind : GoodIn wsL_law (wsV RL 122 RX7 yX7_kind wsX7_kind) := goodIn_app (goodIn_of _ (by decide +kernel)) ggL_law_X7_kind
set_option maxRecDepth 20000 in
theorem ggL_law_X8_kind : GoodIn wsL_law wsX8_kind := goodIn_r _ [867, 86, 125, 485, 486, 487, 5, 488, 130, 131, 132, 988, 989, 990, 991, 992, 993, 994, 995, 996, 997, 998, 999, 1000, 1001, 1002, 1003, 1004, 1005, 1006, 1007, 1008] (by decide +kernel) (by decide +kernel)
set_option maxRecDepth 20000 in
theorem gL_law_X8_kind : GoodIn wsL_law (wsV RL 125 RX8 yX8_kind wsX8_kind) := goodIn_app (goodIn_of _ (by decide +kernel)) ggL_law_X8_kind
set_option maxRecDepth 20000 in
theorem ggL_law_X7_as : GoodIn wsL_law wsX7_as := goodIn_r _ [871, 26, 98, 472, 497, 474, 475, 476, 25, 477, 375, 102, 103, 2, 104, 872, 873, 874, 875, 116, 117, 118, 119, 109, 105, 106, 107, 108, 110, 978, 979, 980, 981, 982, 983, 984, 985, 986, 987, 1018, 1019, 1020, 1021, 1022, 1023, 1035, 1036, 1037, 1038, 1039, 1040, 1041, 1042, 1043, 1044, 1045, 1046] (by decide +kernel) (by decide +kernel)
set_option maxRecDepth 20000 in
theorem gL_law_X7_as : GoodIn wsL_law (wsV RL 126 RX7 yX7_as wsX7_as) := goodIn_app (goodIn_of _ (by decide +kernel)) ggL_law_X7_as
set_option maxRecDepth 20000 in
theorem ggL_law_X8_as : GoodIn wsL_law wsX8_as := goodIn_r _ [879, 880, 125, 86, 485, 486, 487, 5, 488, 130, 131, 132, 881, 882, 883, 133, 134, 135, 136, 137, 138, 988, 989, 990, 991, 992, 993, 994, 995, 996, 997, 998, 999, 1000, 1001, 1002, 1003, 1004, 1005, 1006, 1007, 1008] (by decide +kernel) (by decide +kernel)
set_option maxRecDepth 20000 in
theorem gL_law_X8_as : GoodIn wsL_law (wsV RL 129 RX8 yX8_as wsX8_as) := goodIn_app (goodIn_of _ (by decide +kernel)) ggL_law_X8_as
set_option maxRecDepth 20000 in
theorem ggL_law_X7_ask : GoodIn wsL_law wsX7_ask := goodIn_r _ [887, 26, 98, 472, 34, 888, 474, 475, 476, 25, 477, 375, 102, 103, 2, 104, 889, 890, 891, 497, 892, 893, 894, 895, 896, 897, 898, 899, 552, 900, 516, 682, 901, 902, 903, 33, 904, 905, 64, 978, 979, 980, 981, 982, 983, 984, 985, 986, 987, 1018, 1019, 1020, 1021, 1022, 1023, 1024, 1025, 1035, 1036, 1037, 1038, 1039, 1040, 1041, 1042, 1043, 1044, 1045, 1046] (by decide +kernel) (by decide +kernel)
set_option maxRecDepth 20000 in
theorem gL_law_X7_ask : GoodIn wsL_law (wsV RL 130 RX7 yX7_ask wsX7_ask) := goodIn_app (goodIn_of _ (by decide +kernel)) ggL_law_X7_ask
set_option maxRecDepth 20000 in
theorem ggL_law_X8_ask : GoodIn wsL_law wsX8_ask := goodIn_r _ [909, 125, 910, 485, 486, 487, 5, 488, 86, 130, 131, 132, 911, 912, 913, 914, 915, 916, 917, 918, 90, 919, 920, 921, 922, 923, 924, 925, 926, 489, 490, 491, 492, 927, 928, 929, 930, 931, 932, 933, 934, 935, 936, 937, 938, 939, 940, 941, 942, 988, 989, 990, 991, 992, 993, 994, 995, 996, 997, 998, 999, 1000, 1001, 1002, 1003, 1004, 1005, 1006, 1007, 1008] (by decide +kernel) (by decide +kernel)
set_option maxRecDepth 20000 in
theorem gL_law_X8_ask : GoodIn wsL_law (wsV RL 133 RX8 yX8_ask wsX8_ask) := goodIn_app (goodIn_of _ (by decide +kernel)) ggL_law_X8_ask
set_option maxRecDepth 20000 in
theorem ggL_law_X7_trace : GoodIn wsL_law wsX7_trace := goodIn_r _ [946, 34, 888, 947, 741, 978, 979, 980, 981, 982, 983, 984, 985, 986, 987, 1024, 1025] (by decide +kernel) (by decide +kernel)
set_option maxRecDepth 20000 in
theorem gL_law_X7_trace : GoodIn wsL_law (wsV RL 134 RX7 yX7_trace wsX7_trace) := goodIn_app (goodIn_of _ (by decide +kernel)) ggL_law_X7_trace
set_option maxRecDepth 20000 in
theorem ggL_law_X8_trace : GoodIn wsL_law wsX8_trace := goodIn_r _ [951, 910, 90, 633, 130, 131, 5, 132, 988, 989, 990, 991, 992, 993, 994, 995, 996, 997, 998, 999, 1000, 1001, 1002, 1003, 1004, 1005, 1006, 1007, 1008] (by decide +kernel) (by decide +kernel)
set_option maxRecDepth 20000 in
theorem gL_law_X8_trace : GoodIn wsL_law (wsV RL 137 RX8 yX8_trace wsX8_trace) := goodIn_app (goodIn_of _ (by decide +kernel)) ggL_law_X8_trace
set_option maxRecDepth 20000 in
theorem ggL_law_X7_count : GoodIn wsL_law wsX7_count := goodIn_r _ [955, 26, 224, 554, 18, 202, 98, 956, 957, 958, 2, 959, 14, 143, 144, 145, 36, 146, 69, 478, 479, 480, 960, 961, 962, 25, 963, 375, 54, 964, 803, 804, 805, 806, 807, 965, 607, 608, 609, 610, 611, 612, 978, 979, 980, 981, 982, 983, 984, 985, 986, 987, 1018, 1019, 1020, 1021, 1022, 1023, 1009, 1010, 1026, 1027, 1028, 1035, 1036, 1037, 1038, 1039, 1040, 1041, 1042, 1043, 1044, 1045, 1046] (by decide +kernel) (by decide +kernel)
set_option maxRecDepth 20000 in
theorem gL_law_X7_count : GoodIn wsL_law (wsV RL 138 RX7 yX7_count wsX7_count) := goodIn_app (goodIn_of _ (by decide +kernel)) ggL_law_X7_count
set_option maxRecDepth 20000 in
theorem ggL_law_X8_count : GoodIn wsL_law wsX8_count := goodIn_r _ [969, 86, 214, 125, 163, 164, 165, 5, 166, 82, 489, 490, 491, 492, 988, 989, 990, 991, 992, 993, 994, 995, 996, 997, 998, 999, 1000, 1001, 1002, 1003, 1004, 1005, 1006, 1007, 1008] (by decide +kernel) (by decide +kernel)
set_option maxRecDepth 20000 in
theorem gL_law_X8_count : GoodIn wsL_law (wsV RL 141 RX8 yX8_count wsX8_count) := goodIn_app (goodIn_of _ (by decide +kernel)) ggL_law_X8_count
set_option maxRecDepth 20000 in
theorem ggL_law_X7_status : GoodIn wsL_law wsX7_status := goodIn_r _ [973, 109, 978, 979, 980, 981, 982, 983, 984, 985, 986, 987] (by decide +kernel) (by decide +kernel)
set_option maxRecDepth 20000 in
theorem gL_law_X7_status : GoodIn wsL_law (wsV RL 142 RX7 yX7_status wsX7_status) := goodIn_app (goodIn_of _ (by decide +kernel)) ggL_law_X7_status
set_option maxRecDepth 20000 in
theorem ggL_law_X8_status : GoodIn wsL_law wsX8_status := goodIn_r _ [977, 137, 988, 989, 990, 991, 992, 993, 994, 995, 996, 997, 998, 999, 1000, 1001, 1002, 1003, 1004, 1005, 1006, 1007, 1008] (by decide +kernel) (by decide +kernel)
set_option maxRecDepth 20000 in
theorem gL_law_X8_status : GoodIn wsL_law (wsV RL 145 RX8 yX8_status wsX8_status) := goodIn_app (goodIn_of _ (by decide +kernel)) ggL_law_X8_status
