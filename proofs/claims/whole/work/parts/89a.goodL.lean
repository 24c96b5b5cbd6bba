set_option maxRecDepth 20000 in
theorem ggL_law_X7_init : GoodIn wsL_law wsX7_init := goodIn_r _ [9, 10, 11, 12, 13, 14, 15, 16, 17, 18, 19, 20, 21, 22, 23, 24, 25, 26, 27, 28, 29, 30, 31, 32, 33, 34, 35, 36, 37, 38, 39, 40, 41, 42, 43, 44, 45, 46, 47, 48, 49, 50, 51, 52, 53, 54, 55, 56, 57, 58, 59, 60, 61, 62, 63, 64, 65, 66, 67, 68, 69, 70, 71, 72, 73, 74, 75, 976, 977, 978, 979, 980, 981, 982, 983, 984, 1006, 1007, 1008, 1009, 1010, 1011, 1012, 1013, 1014, 1015, 1016, 1017, 1018, 1019, 1020, 1021, 1022, 1023, 1024, 1025, 1026, 1027, 1028, 1029, 1030, 1031, 1032, 1033, 1034, 1035, 1036, 1037, 1038, 1039, 1040, 1041, 1042, 1043] (by decide +kernel) (by decide +kernel)
set_option maxRecDepth 20000 in
theorem gL_law_X7_init : GoodIn wsL_law (wsX7_init) := ggL_law_X7_init
set_option maxRecDepth 20000 in
theorem ggL_law_X8_init : GoodIn wsL_law wsX8_init := goodIn_r _ [78, 79, 11, 12, 61, 80, 81, 82, 83, 84, 85, 86, 87, 88, 89, 90, 91, 985, 986, 987, 988, 989, 990, 991, 992, 993, 994, 995, 996, 997, 998, 999, 1000, 1001, 1002, 1003, 1004, 1005] (by decide +kernel) (by decide +kernel)
set_option maxRecDepth 20000 in
theorem gL_law_X8_init : GoodIn wsL_law (wsX8_init) := ggL_law_X8_init
set_option maxRecDepth 20000 in
theorem ggL_law_X7_row : GoodIn wsL_law wsX7_row := goodIn_r _ [95, 96, 14, 97, 98, 2, 99, 100, 101, 102, 103, 104, 105, 106, 107, 108, 109, 110, 111, 32, 112, 113, 67, 66, 114, 115, 116, 117, 976, 977, 978, 979, 980, 981, 982, 983, 984, 1021, 1022, 1023] (by decide +kernel) (by decide +kernel)
set_option maxRecDepth 20000 in
theorem gL_law_X7_row : GoodIn wsL_law (wsV RL 13 RX7 yX7_row wsX7_row) := goodIn_app (goodIn_of _ (by decide +kernel)) ggL_law_X7_row
set_option maxRecDepth 20000 in
theorem ggL_law_X8_row : GoodIn wsL_law wsX8_row := goodIn_r _ [121, 122, 123, 80, 81, 82, 124, 125, 5, 126, 127, 128, 129, 130, 131, 132, 133, 134, 135, 136, 985, 986, 987, 988, 989, 990, 991, 992, 993, 994, 995, 996, 997, 998, 999, 1000, 1001, 1002, 1003, 1004, 1005] (by decide +kernel) (by decide +kernel)
set_option maxRecDepth 20000 in
theorem gL_law_X8_row : GoodIn wsL_law (wsV RL 17 RX8 yX8_row wsX8_row) := goodIn_app (goodIn_of _ (by decide +kernel)) ggL_law_X8_row
set_option maxRecDepth 20000 in
theorem ggL_law_X7_set : GoodIn wsL_law wsX7_set := goodIn_r _ [140, 96, 14, 97, 98, 2, 99, 100, 101, 102, 141, 142, 143, 32, 144, 67, 103, 104, 105, 106, 107, 108, 145, 146, 147, 148, 149, 150, 151, 152, 66, 153, 154, 155, 156, 113, 114, 115, 116, 117, 976, 977, 978, 979, 980, 981, 982, 983, 984, 1021, 1022, 1023] (by decide +kernel) (by decide +kernel)
set_option maxRecDepth 20000 in
theorem gL_law_X7_set : GoodIn wsL_law (wsV RL 18 RX7 yX7_set wsX7_set) := goodIn_app (goodIn_of _ (by decide +kernel)) ggL_law_X7_set
set_option maxRecDepth 20000 in
theorem ggL_law_X8_set : GoodIn wsL_law wsX8_set := goodIn_r _ [160, 123, 81, 82, 80, 124, 125, 5, 126, 127, 128, 129, 130, 161, 162, 163, 164, 131, 132, 133, 134, 135, 136, 165, 166, 167, 168, 169, 985, 986, 987, 988, 989, 990, 991, 992, 993, 994, 995, 996, 997, 998, 999, 1000, 1001, 1002, 1003, 1004, 1005] (by decide +kernel) (by decide +kernel)
set_option maxRecDepth 20000 in
theorem gL_law_X8_set : GoodIn wsL_law (wsV RL 21 RX8 yX8_set wsX8_set) := goodIn_app (goodIn_of _ (by decide +kernel)) ggL_law_X8_set
set_option maxRecDepth 20000 in
theorem ggL_law_X7_copy : GoodIn wsL_law wsX7_copy := goodIn_r _ [173, 96, 14, 174, 175, 176, 177, 178, 179, 97, 98, 2, 99, 100, 101, 102, 141, 142, 143, 32, 144, 67, 103, 104, 105, 106, 107, 108, 145, 146, 147, 148, 114, 115, 116, 117, 976, 977, 978, 979, 980, 981, 982, 983, 984, 1021, 1022, 1023] (by decide +kernel) (by decide +kernel)
set_option maxRecDepth 20000 in
theorem gL_law_X7_copy : GoodIn wsL_law (wsV RL 22 RX7 yX7_copy wsX7_copy) := goodIn_app (goodIn_of _ (by decide +kernel)) ggL_law_X7_copy
set_option maxRecDepth 20000 in
theorem ggL_law_X8_copy : GoodIn wsL_law wsX8_copy := goodIn_r _ [183, 123, 80, 81, 89, 82, 124, 125, 5, 126, 127, 128, 129, 130, 161, 162, 163, 164, 131, 132, 133, 134, 135, 136, 184, 185, 186, 985, 986, 987, 988, 989, 990, 991, 992, 993, 994, 995, 996, 997, 998, 999, 1000, 1001, 1002, 1003, 1004, 1005] (by decide +kernel) (by decide +kernel)
set_option maxRecDepth 20000 in
theorem gL_law_X8_copy : GoodIn wsL_law (wsV RL 26 RX8 yX8_copy wsX8_copy) := goodIn_app (goodIn_of _ (by decide +kernel)) ggL_law_X8_copy
set_option maxRecDepth 20000 in
theorem ggL_law_X7_drop : GoodIn wsL_law wsX7_drop := goodIn_r _ [190, 96, 14, 191, 97, 98, 2, 99, 100, 101, 102, 141, 142, 143, 32, 144, 67, 103, 104, 105, 106, 107, 108, 114, 115, 116, 117, 976, 977, 978, 979, 980, 981, 982, 983, 984, 1021, 1022, 1023] (by decide +kernel) (by decide +kernel)
set_option maxRecDepth 20000 in
theorem gL_law_X7_drop : GoodIn wsL_law (wsV RL 27 RX7 yX7_drop wsX7_drop) := goodIn_app (goodIn_of _ (by decide +kernel)) ggL_law_X7_drop
set_option maxRecDepth 20000 in
theorem ggL_law_X8_drop : GoodIn wsL_law wsX8_drop := goodIn_r _ [195, 123, 80, 81, 124, 125, 5, 126, 127, 128, 129, 130, 161, 162, 163, 164, 131, 132, 133, 134, 135, 136, 985, 986, 987, 988, 989, 990, 991, 992, 993, 994, 995, 996, 997, 998, 999, 1000, 1001, 1002, 1003, 1004, 1005] (by decide +kernel) (by decide +kernel)
set_option maxRecDepth 20000 in
theorem gL_law_X8_drop : GoodIn wsL_law (wsV RL 31 RX8 yX8_drop wsX8_drop) := goodIn_app (goodIn_of _ (by decide +kernel)) ggL_law_X8_drop
set_option maxRecDepth 20000 in
theorem ggL_law_X7_feed : GoodIn wsL_law wsX7_feed := goodIn_r _ [199, 96, 18, 200, 201, 202, 100, 101, 2, 102, 203, 204, 205, 40, 206, 46, 207, 976, 977, 978, 979, 980, 981, 982, 983, 984, 1006, 1007, 1008, 1009, 1010, 1011, 1012, 1030, 1031] (by decide +kernel) (by decide +kernel)
set_option maxRecDepth 20000 in
theorem gL_law_X7_feed : GoodIn wsL_law (wsV RL 34 RX7 yX7_feed wsX7_feed) := goodIn_app (goodIn_of _ (by decide +kernel)) ggL_law_X7_feed
set_option maxRecDepth 20000 in
theorem ggL_law_X8_feed : GoodIn wsL_law wsX8_feed := goodIn_r _ [211, 212, 123, 213, 214, 83, 215, 128, 129, 5, 130, 985, 986, 987, 988, 989, 990, 991, 992, 993, 994, 995, 996, 997, 998, 999, 1000, 1001, 1002, 1003, 1004, 1005] (by decide +kernel) (by decide +kernel)
set_option maxRecDepth 20000 in
theorem gL_law_X8_feed : GoodIn wsL_law (wsV RL 38 RX8 yX8_feed wsX8_feed) := goodIn_app (goodIn_of _ (by decide +kernel)) ggL_law_X8_feed
set_option maxRecDepth 20000 in
theorem ggL_law_X7_ridge : GoodIn wsL_law wsX7_ridge := goodIn_r _ [219, 18, 23, 200, 201, 220, 221, 222, 22, 223, 224, 225, 226, 17, 227, 228, 229, 230, 231, 232, 233, 234, 235, 236, 41, 237, 238, 239, 240, 241, 242, 243, 40, 244, 207, 46, 245, 246, 247, 248, 249, 250, 251, 252, 253, 254, 255, 256, 257, 258, 259, 260, 261, 262, 263, 264, 265, 266, 267, 268, 269, 270, 271, 272, 273, 274, 275, 276, 277, 278, 279, 280, 281, 282, 283, 284, 285, 286, 287, 288, 289, 290, 291, 292, 293, 294, 295, 296, 297, 298, 299, 300, 301, 302, 303, 304, 305, 306, 307, 308, 309, 310, 311, 312, 313, 314, 315, 316, 317, 318, 319, 320, 321, 322, 323, 324, 325, 326, 327, 328, 329, 330, 331, 332, 333, 334, 335, 336, 337, 101, 2, 102, 338, 339, 340, 341, 342, 343, 344, 345, 346, 347, 348, 349, 350, 351, 352, 353, 354, 355, 356, 357, 358, 359, 360, 361, 362, 54, 363, 364, 365, 366, 367, 368, 369, 370, 371, 372, 21, 373, 374, 52, 375, 376, 377, 378, 379, 380, 381, 382, 383, 384, 385, 386, 387, 388, 389, 390, 391, 392, 393, 394, 976, 977, 978, 979, 980, 981, 982, 983, 984, 1006, 1007, 1008, 1009, 1010, 1011, 1012, 1030, 1031, 1013, 1014, 1015, 1016, 1017, 1018, 1032, 1033, 1034, 1035, 1036, 1037, 1038, 1039, 1040, 1041, 1042, 1043] (by decide +kernel) (by decide +kernel)
set_option maxRecDepth 20000 in
theorem gL_law_X7_ridge : GoodIn wsL_law (wsV RL 39 RX7 yX7_ridge wsX7_ridge) := goodIn_app (goodIn_of _ (by decide +kernel)) ggL_law_X7_ridge
set_option maxRecDepth 20000 in
theorem ggL_law_X8_ridge : GoodIn wsL_law wsX8_ridge := goodIn_r _ [398, 399, 213, 400, 401, 402, 87, 84, 403, 404, 405, 5, 406, 407, 408, 409, 410, 411, 412, 413, 414, 415, 416, 417, 418, 419, 420, 421, 422, 423, 424, 425, 426, 427, 428, 429, 430, 83, 128, 129, 130, 431, 432, 433, 434, 435, 436, 437, 438, 439, 440, 441, 442, 443, 444, 445, 446, 447, 448, 449, 450, 451, 452, 453, 454, 455, 456, 457, 458, 985, 986, 987, 988, 989, 990, 991, 992, 993, 994, 995, 996, 997, 998, 999, 1000, 1001, 1002, 1003, 1004, 1005] (by decide +kernel) (by decide +kernel)
set_option maxRecDepth 20000 in
theorem gL_law_X8_ridge : GoodIn wsL_law (wsV RL 43 RX8 yX8_ridge wsX8_ridge) := goodIn_app (goodIn_of _ (by decide +kernel)) ggL_law_X8_ridge
set_option maxRecDepth 20000 in
theorem ggL_law_X7_fault : GoodIn wsL_law wsX7_fault := goodIn_r _ [462, 220, 976, 977, 978, 979, 980, 981, 982, 983, 984] (by decide +kernel) (by decide +kernel)
set_option maxRecDepth 20000 in
theorem gL_law_X7_fault : GoodIn wsL_law (wsV RL 44 RX7 yX7_fault wsX7_fault) := goodIn_app (goodIn_of _ (by decide +kernel)) ggL_law_X7_fault
set_option maxRecDepth 20000 in
theorem ggL_law_X8_fault : GoodIn wsL_law wsX8_fault := goodIn_r _ [466, 401, 985, 986, 987, 988, 989, 990, 991, 992, 993, 994, 995, 996, 997, 998, 999, 1000, 1001, 1002, 1003, 1004, 1005] (by decide +kernel) (by decide +kernel)
set_option maxRecDepth 20000 in
theorem gL_law_X8_fault : GoodIn wsL_law (wsV RL 47 RX8 yX8_fault wsX8_fault) := goodIn_app (goodIn_of _ (by decide +kernel)) ggL_law_X8_fault
set_option maxRecDepth 20000 in
theorem ggL_law_X7_furl : GoodIn wsL_law wsX7_furl := goodIn_r _ [470, 22, 96, 471, 472, 473, 474, 475, 21, 476, 374, 100, 101, 2, 102, 477, 478, 479, 976, 977, 978, 979, 980, 981, 982, 983, 984, 1013, 1014, 1015, 1016, 1017, 1018, 1032, 1033, 1034, 1035, 1036, 1037, 1038, 1039, 1040, 1041, 1042, 1043] (by decide +kernel) (by decide +kernel)
set_option maxRecDepth 20000 in
theorem gL_law_X7_furl : GoodIn wsL_law (wsV RL 48 RX7 yX7_furl wsX7_furl) := goodIn_app (goodIn_of _ (by decide +kernel)) ggL_law_X7_furl
set_option maxRecDepth 20000 in
theorem ggL_law_X8_furl : GoodIn wsL_law wsX8_furl := goodIn_r _ [483, 123, 84, 484, 485, 486, 5, 487, 128, 129, 130, 488, 489, 490, 491, 985, 986, 987, 988, 989, 990, 991, 992, 993, 994, 995, 996, 997, 998, 999, 1000, 1001, 1002, 1003, 1004, 1005] (by decide +kernel) (by decide +kernel)
set_option maxRecDepth 20000 in
theorem gL_law_X8_furl : GoodIn wsL_law (wsV RL 52 RX8 yX8_furl wsX8_furl) := goodIn_app (goodIn_of _ (by decide +kernel)) ggL_law_X8_furl
set_option maxRecDepth 20000 in
theorem ggL_law_X7_face : GoodIn wsL_law wsX7_face := goodIn_r _ [495, 22, 96, 471, 496, 497, 498, 473, 474, 475, 21, 476, 374, 499, 500, 2, 501, 100, 101, 102, 976, 977, 978, 979, 980, 981, 982, 983, 984, 1013, 1014, 1015, 1016, 1017, 1018, 1032, 1033, 1034, 1035, 1036, 1037, 1038, 1039, 1040, 1041, 1042, 1043] (by decide +kernel) (by decide +kernel)
set_option maxRecDepth 20000 in
theorem gL_law_X7_face : GoodIn wsL_law (wsV RL 53 RX7 yX7_face wsX7_face) := goodIn_app (goodIn_of _ (by decide +kernel)) ggL_law_X7_face
set_option maxRecDepth 20000 in
theorem ggL_law_X8_face : GoodIn wsL_law wsX8_face := goodIn_r _ [505, 123, 84, 506, 484, 485, 486, 5, 487, 128, 129, 130, 507, 508, 509, 510, 488, 489, 490, 491, 985, 986, 987, 988, 989, 990, 991, 992, 993, 994, 995, 996, 997, 998, 999, 1000, 1001, 1002, 1003, 1004, 1005] (by decide +kernel) (by decide +kernel)
set_option maxRecDepth 20000 in
theorem gL_law_X8_face : GoodIn wsL_law (wsV RL 56 RX8 yX8_face wsX8_face) := goodIn_app (goodIn_of _ (by decide +kernel)) ggL_law_X8_face
set_option maxRecDepth 20000 in
theorem ggL_law_X7_build : GoodIn wsL_law wsX7_build := goodIn_r _ [514, 22, 96, 471, 515, 202, 473, 474, 475, 21, 476, 374, 976, 977, 978, 979, 980, 981, 982, 983, 984, 1013, 1014, 1015, 1016, 1017, 1018, 1032, 1033, 1034, 1035, 1036, 1037, 1038, 1039, 1040, 1041, 1042, 1043] (by decide +kernel) (by decide +kernel)
set_option maxRecDepth 20000 in
theorem gL_law_X7_build : GoodIn wsL_law (wsV RL 57 RX7 yX7_build wsX7_build) := goodIn_app (goodIn_of _ (by decide +kernel)) ggL_law_X7_build
set_option maxRecDepth 20000 in
theorem ggL_law_X8_build : GoodIn wsL_law wsX8_build := goodIn_r _ [519, 123, 214, 84, 484, 485, 486, 5, 487, 128, 129, 130, 488, 489, 490, 491, 985, 986, 987, 988, 989, 990, 991, 992, 993, 994, 995, 996, 997, 998, 999, 1000, 1001, 1002, 1003, 1004, 1005] (by decide +kernel) (by decide +kernel)
set_option maxRecDepth 20000 in
theorem gL_law_X8_build : GoodIn wsL_law (wsV RL 60 RX8 yX8_build wsX8_build) := goodIn_app (goodIn_of _ (by decide +kernel)) ggL_law_X8_build
set_option maxRecDepth 20000 in
theorem ggL_law_X7_bring : GoodIn wsL_law wsX7_bring := goodIn_r _ [523, 22, 96, 471, 524, 525, 526, 527, 528, 529, 473, 474, 475, 21, 476, 374, 100, 101, 2, 102, 976, 977, 978, 979, 980, 981, 982, 983, 984, 1013, 1014, 1015, 1016, 1017, 1018, 1032, 1033, 1034, 1035, 1036, 1037, 1038, 1039, 1040, 1041, 1042, 1043] (by decide +kernel) (by decide +kernel)
set_option maxRecDepth 20000 in
theorem gL_law_X7_bring : GoodIn wsL_law (wsV RL 61 RX7 yX7_bring wsX7_bring) := goodIn_app (goodIn_of _ (by decide +kernel)) ggL_law_X7_bring
set_option maxRecDepth 20000 in
theorem ggL_law_X8_bring : GoodIn wsL_law wsX8_bring := goodIn_r _ [533, 534, 123, 84, 535, 484, 485, 486, 5, 487, 128, 129, 130, 488, 489, 490, 491, 985, 986, 987, 988, 989, 990, 991, 992, 993, 994, 995, 996, 997, 998, 999, 1000, 1001, 1002, 1003, 1004, 1005] (by decide +kernel) (by decide +kernel)
set_option maxRecDepth 20000 in
theorem gL_law_X8_bring : GoodIn wsL_law (wsV RL 64 RX8 yX8_bring wsX8_bring) := goodIn_app (goodIn_of _ (by decide +kernel)) ggL_law_X8_bring
set_option maxRecDepth 20000 in
theorem ggL_law_X7_hour : GoodIn wsL_law wsX7_hour := goodIn_r _ [539, 22, 497, 96, 540, 541, 542, 21, 543, 374, 544, 545, 2, 546, 499, 500, 501, 100, 101, 102, 547, 548, 549, 550, 223, 471, 524, 551, 552, 553, 554, 555, 556, 557, 26, 558, 559, 560, 34, 561, 74, 562, 563, 564, 565, 527, 528, 529, 566, 567, 568, 569, 71, 570, 378, 379, 380, 381, 382, 383, 384, 52, 385, 386, 387, 54, 388, 364, 365, 389, 390, 391, 392, 393, 394, 366, 367, 368, 369, 571, 474, 475, 476, 572, 573, 574, 575, 478, 479, 576, 577, 578, 579, 580, 581, 582, 583, 584, 585, 586, 587, 588, 72, 589, 590, 591, 592, 593, 594, 595, 596, 597, 598, 599, 600, 601, 602, 603, 604, 605, 606, 607, 608, 609, 610, 611, 612, 613, 614, 976, 977, 978, 979, 980, 981, 982, 983, 984, 1013, 1014, 1015, 1016, 1017, 1018, 1032, 1033, 1034, 1035, 1036, 1037, 1038, 1039, 1040, 1041, 1042, 1043, 1024, 1025, 1026, 1027, 1028, 1029] (by decide +kernel) (by decide +kernel)
set_option maxRecDepth 20000 in
theorem gL_law_X7_hour : GoodIn wsL_law (wsV RL 65 RX7 yX7_hour wsX7_hour) := goodIn_app (goodIn_of _ (by decide +kernel)) ggL_law_X7_hour
set_option maxRecDepth 20000 in
theorem ggL_law_X8_hour : GoodIn wsL_law wsX8_hour := goodIn_r _ [618, 506, 123, 619, 620, 621, 5, 622, 84, 623, 624, 625, 626, 507, 508, 509, 510, 128, 129, 130, 627, 628, 629, 630, 90, 631, 91, 632, 633, 634, 635, 636, 637, 638, 639, 640, 641, 642, 643, 488, 489, 490, 491, 644, 645, 646, 647, 648, 649, 650, 651, 652, 653, 654, 655, 423, 656, 657, 658, 659, 985, 986, 987, 988, 989, 990, 991, 992, 993, 994, 995, 996, 997, 998, 999, 1000, 1001, 1002, 1003, 1004, 1005] (by decide +kernel) (by decide +kernel)
set_option maxRecDepth 20000 in
theorem gL_law_X8_hour : GoodIn wsL_law (wsV RL 68 RX8 yX8_hour wsX8_hour) := goodIn_app (goodIn_of _ (by decide +kernel)) ggL_law_X8_hour
set_option maxRecDepth 20000 in
theorem ggL_law_X7_hours : GoodIn wsL_law wsX7_hours := goodIn_r _ [663, 22, 497, 96, 14, 175, 540, 541, 542, 21, 543, 374, 97, 98, 2, 99, 100, 101, 102, 141, 142, 143, 32, 144, 67, 103, 104, 105, 106, 107, 108, 145, 146, 147, 148, 664, 665, 666, 667, 668, 669, 544, 545, 546, 499, 500, 501, 547, 548, 549, 550, 223, 471, 524, 551, 552, 553, 554, 555, 556, 557, 26, 558, 559, 560, 34, 561, 74, 562, 563, 564, 565, 527, 528, 529, 566, 567, 568, 569, 71, 570, 378, 379, 380, 381, 382, 383, 384, 52, 385, 386, 387, 54, 388, 364, 365, 389, 390, 391, 392, 393, 394, 366, 367, 368, 369, 571, 474, 475, 476, 572, 573, 574, 575, 478, 479, 576, 577, 578, 579, 580, 581, 582, 583, 584, 585, 586, 587, 588, 72, 589, 590, 591, 592, 593, 594, 595, 596, 597, 598, 599, 600, 601, 602, 603, 604, 605, 606, 607, 608, 609, 610, 611, 612, 613, 614, 114, 115, 116, 117, 976, 977, 978, 979, 980, 981, 982, 983, 984, 1021, 1022, 1023, 1013, 1014, 1015, 1016, 1017, 1018, 1032, 1033, 1034, 1035, 1036, 1037, 1038, 1039, 1040, 1041, 1042, 1043, 1024, 1025, 1026, 1027, 1028, 1029] (by decide +kernel) (by decide +kernel)
set_option maxRecDepth 20000 in
theorem gL_law_X7_hours : GoodIn wsL_law (wsV RL 69 RX7 yX7_hours wsX7_hours) := goodIn_app (goodIn_of _ (by decide +kernel)) ggL_law_X7_hours
set_option maxRecDepth 20000 in
theorem ggL_law_X8_hours : GoodIn wsL_law wsX8_hours := goodIn_r _ [673, 506, 674, 123, 81, 82, 619, 620, 621, 5, 622, 84, 124, 125, 126, 127, 128, 129, 130, 161, 162, 163, 164, 80, 131, 132, 133, 134, 135, 136, 184, 185, 186, 623, 624, 625, 626, 507, 508, 509, 510, 627, 628, 629, 630, 90, 631, 91, 632, 633, 634, 635, 636, 637, 638, 639, 640, 641, 642, 643, 488, 489, 490, 491, 644, 645, 646, 647, 648, 649, 650, 651, 652, 653, 654, 655, 423, 656, 657, 658, 659, 985, 986, 987, 988, 989, 990, 991, 992, 993, 994, 995, 996, 997, 998, 999, 1000, 1001, 1002, 1003, 1004, 1005] (by decide +kernel) (by decide +kernel)
set_option maxRecDepth 20000 in
theorem gL_law_X8_hours : GoodIn wsL_law (wsV RL 72 RX8 yX8_hours wsX8_hours) := goodIn_app (goodIn_of _ (by decide +kernel)) ggL_law_X8_hours
set_option maxRecDepth 20000 in
theorem ggL_law_X7_mill : GoodIn wsL_law wsX7_mill := goodIn_r _ [678, 22, 96, 471, 515, 679, 680, 524, 551, 552, 498, 472, 681, 682, 473, 474, 475, 21, 476, 374, 477, 478, 2, 479, 976, 977, 978, 979, 980, 981, 982, 983, 984, 1013, 1014, 1015, 1016, 1017, 1018, 1032, 1033, 1034, 1035, 1036, 1037, 1038, 1039, 1040, 1041, 1042, 1043] (by decide +kernel) (by decide +kernel)
set_option maxRecDepth 20000 in
theorem gL_law_X7_mill : GoodIn wsL_law (wsV RL 73 RX7 yX7_mill wsX7_mill) := goodIn_app (goodIn_of _ (by decide +kernel)) ggL_law_X7_mill
set_option maxRecDepth 20000 in
theorem ggL_law_X8_mill : GoodIn wsL_law wsX8_mill := goodIn_r _ [686, 687, 123, 484, 485, 486, 5, 487, 84, 128, 129, 130, 488, 489, 490, 491, 985, 986, 987, 988, 989, 990, 991, 992, 993, 994, 995, 996, 997, 998, 999, 1000, 1001, 1002, 1003, 1004, 1005] (by decide +kernel) (by decide +kernel)
set_option maxRecDepth 20000 in
theorem gL_law_X8_mill : GoodIn wsL_law (wsV RL 76 RX8 yX8_mill wsX8_mill) := goodIn_app (goodIn_of _ (by decide +kernel)) ggL_law_X8_mill
set_option maxRecDepth 20000 in
theorem ggL_law_X7_left : GoodIn wsL_law wsX7_left := goodIn_r _ [691, 22, 96, 692, 473, 474, 475, 21, 476, 374, 544, 545, 2, 546, 499, 500, 501, 100, 101, 102, 554, 555, 556, 557, 26, 558, 559, 560, 34, 561, 74, 562, 563, 564, 565, 527, 528, 529, 566, 567, 568, 569, 71, 570, 378, 379, 380, 381, 382, 383, 384, 52, 385, 386, 387, 54, 388, 364, 365, 389, 390, 391, 392, 393, 394, 366, 367, 368, 369, 571, 572, 573, 574, 575, 478, 479, 576, 577, 578, 579, 580, 581, 582, 583, 584, 585, 586, 587, 588, 72, 589, 693, 601, 602, 603, 604, 605, 606, 607, 608, 609, 610, 976, 977, 978, 979, 980, 981, 982, 983, 984, 1024, 1025, 1026, 1027, 1028, 1029, 1013, 1014, 1015, 1016, 1017, 1018, 1032, 1033, 1034, 1035, 1036, 1037, 1038, 1039, 1040, 1041, 1042, 1043] (by decide +kernel) (by decide +kernel)
set_option maxRecDepth 20000 in
theorem gL_law_X7_left : GoodIn wsL_law (wsV RL 77 RX7 yX7_left wsX7_left) := goodIn_app (goodIn_of _ (by decide +kernel)) ggL_law_X7_left
set_option maxRecDepth 20000 in
theorem ggL_law_X8_left : GoodIn wsL_law wsX8_left := goodIn_r _ [697, 123, 631, 84, 484, 485, 486, 5, 487, 128, 129, 130, 623, 624, 625, 626, 507, 508, 509, 510, 647, 648, 649, 650, 651, 652, 653, 654, 655, 423, 488, 489, 490, 491, 656, 657, 658, 659, 640, 641, 642, 643, 644, 645, 646, 985, 986, 987, 988, 989, 990, 991, 992, 993, 994, 995, 996, 997, 998, 999, 1000, 1001, 1002, 1003, 1004, 1005] (by decide +kernel) (by decide +kernel)
set_option maxRecDepth 20000 in
theorem gL_law_X8_left : GoodIn wsL_law (wsV RL 81 RX8 yX8_left wsX8_left) := goodIn_app (goodIn_of _ (by decide +kernel)) ggL_law_X8_left
