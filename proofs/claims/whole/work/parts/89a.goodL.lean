set_option maxRecDepth 20000 in
theorem ggL_law_X7_init : GoodIn wsL_law wsX7_init := goodIn_r _ [9, 10, 11, 12, 13, 14, 15, 16, 17, 18, 19, 20, 21, 22, 23, 24, 25, 26, 27, 28, 29, 30, 31, 32, 33, 34, 35, 36, 37, 38, 39, 40, 41, 42, 43, 44, 45, 46, 47, 48, 49, 50, 51, 52, 53, 54, 55, 56, 57, 58, 59, 60, 61, 62, 63, 64, 65, 66, 67, 68, 69, 70, 71, 72, 73, 74, 75, 76, 77, 978, 979, 980, 981, 982, 983, 984, 985, 986, 987, 1009, 1010, 1011, 1012, 1013, 1014, 1015, 1016, 1017, 1018, 1019, 1020, 1021, 1022, 1023, 1024, 1025, 1026, 1027, 1028, 1029, 1030, 1031, 1032, 1033, 1034, 1035, 1036, 1037, 1038, 1039, 1040, 1041, 1042, 1043, 1044, 1045, 1046] (by decide +kernel) (by decide +kernel)
set_option maxRecDepth 20000 in
theorem gL_law_X7_init : GoodIn wsL_law (wsX7_init) := ggL_law_X7_init
set_option maxRecDepth 20000 in
theorem ggL_law_X8_init : GoodIn wsL_law wsX8_init := goodIn_r _ [80, 81, 11, 12, 63, 82, 83, 84, 85, 86, 87, 88, 89, 90, 91, 92, 93, 988, 989, 990, 991, 992, 993, 994, 995, 996, 997, 998, 999, 1000, 1001, 1002, 1003, 1004, 1005, 1006, 1007, 1008] (by decide +kernel) (by decide +kernel)
set_option maxRecDepth 20000 in
theorem gL_law_X8_init : GoodIn wsL_law (wsX8_init) := ggL_law_X8_init
set_option maxRecDepth 20000 in
theorem ggL_law_X7_row : GoodIn wsL_law wsX7_row := goodIn_r _ [97, 98, 14, 99, 100, 2, 101, 102, 103, 104, 105, 106, 107, 108, 109, 110, 111, 112, 113, 36, 114, 115, 69, 68, 116, 117, 118, 119, 978, 979, 980, 981, 982, 983, 984, 985, 986, 987, 1026, 1027, 1028] (by decide +kernel) (by decide +kernel)
set_option maxRecDepth 20000 in
theorem gL_law_X7_row : GoodIn wsL_law (wsV RL 13 RX7 yX7_row wsX7_row) := goodIn_app (goodIn_of _ (by decide +kernel)) ggL_law_X7_row
set_option maxRecDepth 20000 in
theorem ggL_law_X8_row : GoodIn wsL_law wsX8_row := goodIn_r _ [123, 124, 125, 82, 83, 84, 126, 127, 5, 128, 129, 130, 131, 132, 133, 134, 135, 136, 137, 138, 988, 989, 990, 991, 992, 993, 994, 995, 996, 997, 998, 999, 1000, 1001, 1002, 1003, 1004, 1005, 1006, 1007, 1008] (by decide +kernel) (by decide +kernel)
set_option maxRecDepth 20000 in
theorem gL_law_X8_row : GoodIn wsL_law (wsV RL 17 RX8 yX8_row wsX8_row) := goodIn_app (goodIn_of _ (by decide +kernel)) ggL_law_X8_row
set_option maxRecDepth 20000 in
theorem ggL_law_X7_set : GoodIn wsL_law wsX7_set := goodIn_r _ [142, 98, 14, 99, 100, 2, 101, 102, 103, 104, 143, 144, 145, 36, 146, 69, 105, 106, 107, 108, 109, 110, 147, 148, 149, 150, 151, 152, 153, 154, 68, 155, 156, 157, 158, 115, 116, 117, 118, 119, 978, 979, 980, 981, 982, 983, 984, 985, 986, 987, 1026, 1027, 1028] (by decide +kernel) (by decide +kernel)
set_option maxRecDepth 20000 in
theorem gL_law_X7_set : GoodIn wsL_law (wsV RL 18 RX7 yX7_set wsX7_set) := goodIn_app (goodIn_of _ (by decide +kernel)) ggL_law_X7_set
set_option maxRecDepth 20000 in
theorem ggL_law_X8_set : GoodIn wsL_law wsX8_set := goodIn_r _ [162, 125, 83, 84, 82, 126, 127, 5, 128, 129, 130, 131, 132, 163, 164, 165, 166, 133, 134, 135, 136, 137, 138, 167, 168, 169, 170, 171, 988, 989, 990, 991, 992, 993, 994, 995, 996, 997, 998, 999, 1000, 1001, 1002, 1003, 1004, 1005, 1006, 1007, 1008] (by decide +kernel) (by decide +kernel)
set_option maxRecDepth 20000 in
theorem gL_law_X8_set : GoodIn wsL_law (wsV RL 21 RX8 yX8_set wsX8_set) := goodIn_app (goodIn_of _ (by decide +kernel)) ggL_law_X8_set
set_option maxRecDepth 20000 in
theorem ggL_law_X7_copy : GoodIn wsL_law wsX7_copy := goodIn_r _ [175, 98, 14, 176, 177, 178, 179, 180, 181, 99, 100, 2, 101, 102, 103, 104, 143, 144, 145, 36, 146, 69, 105, 106, 107, 108, 109, 110, 147, 148, 149, 150, 116, 117, 118, 119, 978, 979, 980, 981, 982, 983, 984, 985, 986, 987, 1026, 1027, 1028] (by decide +kernel) (by decide +kernel)
set_option maxRecDepth 20000 in
theorem gL_law_X7_copy : GoodIn wsL_law (wsV RL 22 RX7 yX7_copy wsX7_copy) := goodIn_app (goodIn_of _ (by decide +kernel)) ggL_law_X7_copy
set_option maxRecDepth 20000 in
theorem ggL_law_X8_copy : GoodIn wsL_law wsX8_copy := goodIn_r _ [185, 125, 82, 83, 91, 84, 126, 127, 5, 128, 129, 130, 131, 132, 163, 164, 165, 166, 133, 134, 135, 136, 137, 138, 186, 187, 188, 988, 989, 990, 991, 992, 993, 994, 995, 996, 997, 998, 999, 1000, 1001, 1002, 1003, 1004, 1005, 1006, 1007, 1008] (by decide +kernel) (by decide +kernel)
set_option maxRecDepth 20000 in
theorem gL_law_X8_copy : GoodIn wsL_law (wsV RL 26 RX8 yX8_copy wsX8_copy) := goodIn_app (goodIn_of _ (by decide +kernel)) ggL_law_X8_copy
set_option maxRecDepth 20000 in
theorem ggL_law_X7_drop : GoodIn wsL_law wsX7_drop := goodIn_r _ [192, 98, 14, 193, 99, 100, 2, 101, 102, 103, 104, 143, 144, 145, 36, 146, 69, 105, 106, 107, 108, 109, 110, 116, 117, 118, 119, 978, 979, 980, 981, 982, 983, 984, 985, 986, 987, 1026, 1027, 1028] (by decide +kernel) (by decide +kernel)
set_option maxRecDepth 20000 in
theorem gL_law_X7_drop : GoodIn wsL_law (wsV RL 27 RX7 yX7_drop wsX7_drop) := goodIn_app (goodIn_of _ (by decide +kernel)) ggL_law_X7_drop
set_option maxRecDepth 20000 in
theorem ggL_law_X8_drop : GoodIn wsL_law wsX8_drop := goodIn_r _ [197, 125, 82, 83, 126, 127, 5, 128, 129, 130, 131, 132, 163, 164, 165, 166, 133, 134, 135, 136, 137, 138, 988, 989, 990, 991, 992, 993, 994, 995, 996, 997, 998, 999, 1000, 1001, 1002, 1003, 1004, 1005, 1006, 1007, 1008] (by decide +kernel) (by decide +kernel)
set_option maxRecDepth 20000 in
theorem gL_law_X8_drop : GoodIn wsL_law (wsV RL 31 RX8 yX8_drop wsX8_drop) := goodIn_app (goodIn_of _ (by decide +kernel)) ggL_law_X8_drop
set_option maxRecDepth 20000 in
theorem ggL_law_X7_feed : GoodIn wsL_law wsX7_feed := goodIn_r _ [201, 98, 18, 202, 203, 102, 103, 2, 104, 204, 205, 206, 17, 207, 43, 208, 978, 979, 980, 981, 982, 983, 984, 985, 986, 987, 1009, 1010] (by decide +kernel) (by decide +kernel)
set_option maxRecDepth 20000 in
theorem gL_law_X7_feed : GoodIn wsL_law (wsV RL 34 RX7 yX7_feed wsX7_feed) := goodIn_app (goodIn_of _ (by decide +kernel)) ggL_law_X7_feed
set_option maxRecDepth 20000 in
theorem ggL_law_X8_feed : GoodIn wsL_law wsX8_feed := goodIn_r _ [212, 213, 125, 214, 215, 85, 216, 130, 131, 5, 132, 988, 989, 990, 991, 992, 993, 994, 995, 996, 997, 998, 999, 1000, 1001, 1002, 1003, 1004, 1005, 1006, 1007, 1008] (by decide +kernel) (by decide +kernel)
set_option maxRecDepth 20000 in
theorem gL_law_X8_feed : GoodIn wsL_law (wsV RL 38 RX8 yX8_feed wsX8_feed) := goodIn_app (goodIn_of _ (by decide +kernel)) ggL_law_X8_feed
set_option maxRecDepth 20000 in
theorem ggL_law_X7_ridge : GoodIn wsL_law wsX7_ridge := goodIn_r _ [220, 22, 27, 18, 202, 221, 222, 223, 26, 224, 225, 226, 227, 21, 228, 229, 230, 231, 232, 233, 234, 235, 236, 237, 48, 238, 239, 240, 241, 242, 243, 244, 17, 245, 208, 43, 246, 247, 248, 249, 250, 251, 252, 253, 254, 255, 256, 257, 258, 259, 260, 261, 262, 263, 264, 265, 266, 267, 268, 269, 270, 271, 272, 273, 274, 275, 276, 277, 278, 279, 280, 281, 282, 283, 284, 285, 286, 287, 288, 289, 290, 291, 292, 293, 294, 295, 296, 297, 298, 299, 300, 301, 302, 303, 304, 305, 306, 307, 308, 309, 310, 311, 312, 313, 314, 315, 316, 317, 318, 319, 320, 321, 322, 323, 324, 325, 326, 327, 328, 329, 330, 331, 332, 333, 334, 335, 336, 337, 338, 103, 2, 104, 339, 340, 341, 342, 343, 344, 345, 346, 347, 348, 349, 350, 351, 352, 353, 354, 355, 356, 357, 358, 359, 360, 361, 362, 363, 56, 364, 365, 366, 367, 368, 369, 370, 371, 372, 373, 25, 374, 375, 54, 376, 377, 378, 379, 380, 381, 382, 383, 384, 385, 386, 387, 388, 389, 390, 391, 392, 393, 394, 395, 978, 979, 980, 981, 982, 983, 984, 985, 986, 987, 1009, 1010, 1011, 1012, 1013, 1014, 1015, 1016, 1017, 1018, 1019, 1020, 1021, 1022, 1023, 1035, 1036, 1037, 1038, 1039, 1040, 1041, 1042, 1043, 1044, 1045, 1046] (by decide +kernel) (by decide +kernel)
set_option maxRecDepth 20000 in
theorem gL_law_X7_ridge : GoodIn wsL_law (wsV RL 39 RX7 yX7_ridge wsX7_ridge) := goodIn_app (goodIn_of _ (by decide +kernel)) ggL_law_X7_ridge
set_option maxRecDepth 20000 in
theorem ggL_law_X8_ridge : GoodIn wsL_law wsX8_ridge := goodIn_r _ [399, 400, 214, 401, 402, 403, 89, 86, 404, 405, 406, 5, 407, 408, 409, 410, 411, 412, 413, 414, 415, 416, 417, 418, 419, 420, 421, 422, 423, 424, 425, 426, 427, 428, 429, 430, 431, 85, 130, 131, 132, 432, 433, 434, 435, 436, 437, 438, 439, 440, 441, 442, 443, 444, 445, 446, 447, 448, 449, 450, 451, 452, 453, 454, 455, 456, 457, 458, 459, 988, 989, 990, 991, 992, 993, 994, 995, 996, 997, 998, 999, 1000, 1001, 1002, 1003, 1004, 1005, 1006, 1007, 1008] (by decide +kernel) (by decide +kernel)
set_option maxRecDepth 20000 in
theorem gL_law_X8_ridge : GoodIn wsL_law (wsV RL 43 RX8 yX8_ridge wsX8_ridge) := goodIn_app (goodIn_of _ (by decide +kernel)) ggL_law_X8_ridge
set_option maxRecDepth 20000 in
theorem ggL_law_X7_fault : GoodIn wsL_law wsX7_fault := goodIn_r _ [463, 221, 978, 979, 980, 981, 982, 983, 984, 985, 986, 987] (by decide +kernel) (by decide +kernel)
set_option maxRecDepth 20000 in
theorem gL_law_X7_fault : GoodIn wsL_law (wsV RL 44 RX7 yX7_fault wsX7_fault) := goodIn_app (goodIn_of _ (by decide +kernel)) ggL_law_X7_fault
set_option maxRecDepth 20000 in
theorem ggL_law_X8_fault : GoodIn wsL_law wsX8_fault := goodIn_r _ [467, 402, 988, 989, 990, 991, 992, 993, 994, 995, 996, 997, 998, 999, 1000, 1001, 1002, 1003, 1004, 1005, 1006, 1007, 1008] (by decide +kernel) (by decide +kernel)
set_option maxRecDepth 20000 in
theorem gL_law_X8_fault : GoodIn wsL_law (wsV RL 47 RX8 yX8_fault wsX8_fault) := goodIn_app (goodIn_of _ (by decide +kernel)) ggL_law_X8_fault
set_option maxRecDepth 20000 in
theorem ggL_law_X7_furl : GoodIn wsL_law wsX7_furl := goodIn_r _ [471, 26, 98, 472, 473, 474, 475, 476, 25, 477, 375, 102, 103, 2, 104, 478, 479, 480, 978, 979, 980, 981, 982, 983, 984, 985, 986, 987, 1018, 1019, 1020, 1021, 1022, 1023, 1035, 1036, 1037, 1038, 1039, 1040, 1041, 1042, 1043, 1044, 1045, 1046] (by decide +kernel) (by decide +kernel)
set_option maxRecDepth 20000 in
theorem gL_law_X7_furl : GoodIn wsL_law (wsV RL 48 RX7 yX7_furl wsX7_furl) := goodIn_app (goodIn_of _ (by decide +kernel)) ggL_law_X7_furl
set_option maxRecDepth 20000 in
theorem ggL_law_X8_furl : GoodIn wsL_law wsX8_furl := goodIn_r _ [484, 125, 86, 485, 486, 487, 5, 488, 130, 131, 132, 489, 490, 491, 492, 988, 989, 990, 991, 992, 993, 994, 995, 996, 997, 998, 999, 1000, 1001, 1002, 1003, 1004, 1005, 1006, 1007, 1008] (by decide +kernel) (by decide +kernel)
set_option maxRecDepth 20000 in
theorem gL_law_X8_furl : GoodIn wsL_law (wsV RL 52 RX8 yX8_furl wsX8_furl) := goodIn_app (goodIn_of _ (by decide +kernel)) ggL_law_X8_furl
set_option maxRecDepth 20000 in
theorem ggL_law_X7_face : GoodIn wsL_law wsX7_face := goodIn_r _ [496, 26, 98, 472, 497, 498, 499, 474, 475, 476, 25, 477, 375, 500, 501, 2, 502, 102, 103, 104, 978, 979, 980, 981, 982, 983, 984, 985, 986, 987, 1018, 1019, 1020, 1021, 1022, 1023, 1035, 1036, 1037, 1038, 1039, 1040, 1041, 1042, 1043, 1044, 1045, 1046] (by decide +kernel) (by decide +kernel)
set_option maxRecDepth 20000 in
theorem gL_law_X7_face : GoodIn wsL_law (wsV RL 53 RX7 yX7_face wsX7_face) := goodIn_app (goodIn_of _ (by decide +kernel)) ggL_law_X7_face
set_option maxRecDepth 20000 in
theorem ggL_law_X8_face : GoodIn wsL_law wsX8_face := goodIn_r _ [506, 125, 86, 507, 485, 486, 487, 5, 488, 130, 131, 132, 508, 509, 510, 511, 489, 490, 491, 492, 988, 989, 990, 991, 992, 993, 994, 995, 996, 997, 998, 999, 1000, 1001, 1002, 1003, 1004, 1005, 1006, 1007, 1008] (by decide +kernel) (by decide +kernel)
set_option maxRecDepth 20000 in
theorem gL_law_X8_face : GoodIn wsL_law (wsV RL 56 RX8 yX8_face wsX8_face) := goodIn_app (goodIn_of _ (by decide +kernel)) ggL_law_X8_face
set_option maxRecDepth 20000 in
theorem ggL_law_X7_build : GoodIn wsL_law wsX7_build := goodIn_r _ [515, 26, 98, 472, 516, 203, 474, 475, 476, 25, 477, 375, 978, 979, 980, 981, 982, 983, 984, 985, 986, 987, 1018, 1019, 1020, 1021, 1022, 1023, 1035, 1036, 1037, 1038, 1039, 1040, 1041, 1042, 1043, 1044, 1045, 1046] (by decide +kernel) (by decide +kernel)
set_option maxRecDepth 20000 in
theorem gL_law_X7_build : GoodIn wsL_law (wsV RL 57 RX7 yX7_build wsX7_build) := goodIn_app (goodIn_of _ (by decide +kernel)) ggL_law_X7_build
set_option maxRecDepth 20000 in
theorem ggL_law_X8_build : GoodIn wsL_law wsX8_build := goodIn_r _ [520, 125, 215, 86, 485, 486, 487, 5, 488, 130, 131, 132, 489, 490, 491, 492, 988, 989, 990, 991, 992, 993, 994, 995, 996, 997, 998, 999, 1000, 1001, 1002, 1003, 1004, 1005, 1006, 1007, 1008] (by decide +kernel) (by decide +kernel)
set_option maxRecDepth 20000 in
theorem gL_law_X8_build : GoodIn wsL_law (wsV RL 60 RX8 yX8_build wsX8_build) := goodIn_app (goodIn_of _ (by decide +kernel)) ggL_law_X8_build
set_option maxRecDepth 20000 in
theorem ggL_law_X7_bring : GoodIn wsL_law wsX7_bring := goodIn_r _ [524, 26, 98, 472, 525, 526, 527, 528, 529, 530, 474, 475, 476, 25, 477, 375, 102, 103, 2, 104, 978, 979, 980, 981, 982, 983, 984, 985, 986, 987, 1018, 1019, 1020, 1021, 1022, 1023, 1035, 1036, 1037, 1038, 1039, 1040, 1041, 1042, 1043, 1044, 1045, 1046] (by decide +kernel) (by decide +kernel)
set_option maxRecDepth 20000 in
theorem gL_law_X7_bring : GoodIn wsL_law (wsV RL 61 RX7 yX7_bring wsX7_bring) := goodIn_app (goodIn_of _ (by decide +kernel)) ggL_law_X7_bring
set_option maxRecDepth 20000 in
theorem ggL_law_X8_bring : GoodIn wsL_law wsX8_bring := goodIn_r _ [534, 535, 125, 86, 536, 485, 486, 487, 5, 488, 130, 131, 132, 489, 490, 491, 492, 988, 989, 990, 991, 992, 993, 994, 995, 996, 997, 998, 999, 1000, 1001, 1002, 1003, 1004, 1005, 1006, 1007, 1008] (by decide +kernel) (by decide +kernel)
set_option maxRecDepth 20000 in
theorem gL_law_X8_bring : GoodIn wsL_law (wsV RL 64 RX8 yX8_bring wsX8_bring) := goodIn_app (goodIn_of _ (by decide +kernel)) ggL_law_X8_bring
set_option maxRecDepth 20000 in
theorem ggL_law_X7_hour : GoodIn wsL_law wsX7_hour := goodIn_r _ [540, 26, 498, 98, 541, 542, 543, 25, 544, 375, 545, 546, 2, 547, 500, 501, 502, 102, 103, 104, 548, 549, 550, 551, 224, 472, 525, 552, 553, 554, 555, 556, 557, 558, 30, 559, 560, 561, 38, 562, 563, 564, 76, 565, 566, 77, 567, 74, 568, 569, 570, 56, 571, 370, 366, 369, 479, 480, 572, 573, 574, 575, 576, 577, 528, 529, 530, 578, 579, 580, 581, 582, 583, 584, 585, 586, 587, 588, 589, 590, 75, 591, 592, 593, 594, 595, 596, 597, 598, 599, 600, 601, 602, 603, 604, 605, 606, 607, 608, 609, 610, 611, 612, 613, 614, 615, 616, 978, 979, 980, 981, 982, 983, 984, 985, 986, 987, 1018, 1019, 1020, 1021, 1022, 1023, 1035, 1036, 1037, 1038, 1039, 1040, 1041, 1042, 1043, 1044, 1045, 1046, 1029, 1030, 1031, 1032, 1033, 1034] (by decide +kernel) (by decide +kernel)
set_option maxRecDepth 20000 in
theorem gL_law_X7_hour : GoodIn wsL_law (wsV RL 65 RX7 yX7_hour wsX7_hour) := goodIn_app (goodIn_of _ (by decide +kernel)) ggL_law_X7_hour
set_option maxRecDepth 20000 in
theorem ggL_law_X8_hour : GoodIn wsL_law wsX8_hour := goodIn_r _ [620, 507, 125, 621, 622, 623, 5, 624, 86, 625, 626, 627, 628, 508, 509, 510, 511, 130, 131, 132, 629, 630, 631, 632, 92, 633, 93, 634, 635, 636, 637, 638, 639, 640, 641, 642, 643, 644, 645, 489, 490, 491, 492, 646, 647, 648, 649, 650, 651, 652, 653, 654, 655, 656, 657, 424, 658, 659, 660, 661, 988, 989, 990, 991, 992, 993, 994, 995, 996, 997, 998, 999, 1000, 1001, 1002, 1003, 1004, 1005, 1006, 1007, 1008] (by decide +kernel) (by decide +kernel)
set_option maxRecDepth 20000 in
theorem gL_law_X8_hour : GoodIn wsL_law (wsV RL 68 RX8 yX8_hour wsX8_hour) := goodIn_app (goodIn_of _ (by decide +kernel)) ggL_law_X8_hour
set_option maxRecDepth 20000 in
theorem ggL_law_X7_hours : GoodIn wsL_law wsX7_hours := goodIn_r _ [665, 26, 498, 98, 14, 177, 541, 542, 543, 25, 544, 375, 99, 100, 2, 101, 102, 103, 104, 143, 144, 145, 36, 146, 69, 105, 106, 107, 108, 109, 110, 147, 148, 149, 150, 666, 667, 668, 669, 670, 671, 545, 546, 547, 500, 501, 502, 548, 549, 550, 551, 224, 472, 525, 552, 553, 554, 555, 556, 557, 558, 30, 559, 560, 561, 38, 562, 563, 564, 76, 565, 566, 77, 567, 74, 568, 569, 570, 56, 571, 370, 366, 369, 479, 480, 572, 573, 574, 575, 576, 577, 528, 529, 530, 578, 579, 580, 581, 582, 583, 584, 585, 586, 587, 588, 589, 590, 75, 591, 592, 593, 594, 595, 596, 597, 598, 599, 600, 601, 602, 603, 604, 605, 606, 607, 608, 609, 610, 611, 612, 613, 614, 615, 616, 116, 117, 118, 119, 978, 979, 980, 981, 982, 983, 984, 985, 986, 987, 1026, 1027, 1028, 1018, 1019, 1020, 1021, 1022, 1023, 1035, 1036, 1037, 1038, 1039, 1040, 1041, 1042, 1043, 1044, 1045, 1046, 1029, 1030, 1031, 1032, 1033, 1034] (by decide +kernel) (by decide +kernel)
set_option maxRecDepth 20000 in
theorem gL_law_X7_hours : GoodIn wsL_law (wsV RL 69 RX7 yX7_hours wsX7_hours) := goodIn_app (goodIn_of _ (by decide +kernel)) ggL_law_X7_hours
set_option maxRecDepth 20000 in
theorem ggL_law_X8_hours : GoodIn wsL_law wsX8_hours := goodIn_r _ [675, 507, 676, 125, 83, 84, 621, 622, 623, 5, 624, 86, 126, 127, 128, 129, 130, 131, 132, 163, 164, 165, 166, 82, 133, 134, 135, 136, 137, 138, 186, 187, 188, 625, 626, 627, 628, 508, 509, 510, 511, 629, 630, 631, 632, 92, 633, 93, 634, 635, 636, 637, 638, 639, 640, 641, 642, 643, 644, 645, 489, 490, 491, 492, 646, 647, 648, 649, 650, 651, 652, 653, 654, 655, 656, 657, 424, 658, 659, 660, 661, 988, 989, 990, 991, 992, 993, 994, 995, 996, 997, 998, 999, 1000, 1001, 1002, 1003, 1004, 1005, 1006, 1007, 1008] (by decide +kernel) (by decide +kernel)
set_option maxRecDepth 20000 in
theorem gL_law_X8_hours : GoodIn wsL_law (wsV RL 72 RX8 yX8_hours wsX8_hours) := goodIn_app (goodIn_of _ (by decide +kernel)) ggL_law_X8_hours
set_option maxRecDepth 20000 in
theorem ggL_law_X7_mill : GoodIn wsL_law wsX7_mill := goodIn_r _ [680, 26, 98, 472, 516, 681, 682, 525, 552, 553, 499, 473, 683, 684, 474, 475, 476, 25, 477, 375, 478, 479, 2, 480, 978, 979, 980, 981, 982, 983, 984, 985, 986, 987, 1018, 1019, 1020, 1021, 1022, 1023, 1035, 1036, 1037, 1038, 1039, 1040, 1041, 1042, 1043, 1044, 1045, 1046] (by decide +kernel) (by decide +kernel)
set_option maxRecDepth 20000 in
theorem gL_law_X7_mill : GoodIn wsL_law (wsV RL 73 RX7 yX7_mill wsX7_mill) := goodIn_app (goodIn_of _ (by decide +kernel)) ggL_law_X7_mill
set_option maxRecDepth 20000 in
theorem ggL_law_X8_mill : GoodIn wsL_law wsX8_mill := goodIn_r _ [688, 689, 125, 485, 486, 487, 5, 488, 86, 130, 131, 132, 489, 490, 491, 492, 988, 989, 990, 991, 992, 993, 994, 995, 996, 997, 998, 999, 1000, 1001, 1002, 1003, 1004, 1005, 1006, 1007, 1008] (by decide +kernel) (by decide +kernel)
set_option maxRecDepth 20000 in
theorem gL_law_X8_mill : GoodIn wsL_law (wsV RL 76 RX8 yX8_mill wsX8_mill) := goodIn_app (goodIn_of _ (by decide +kernel)) ggL_law_X8_mill
set_option maxRecDepth 20000 in
theorem ggL_law_X7_left : GoodIn wsL_law wsX7_left := goodIn_r _ [693, 26, 98, 694, 474, 475, 476, 25, 477, 375, 545, 546, 2, 547, 500, 501, 502, 102, 103, 104, 555, 556, 557, 558, 30, 559, 560, 561, 38, 562, 563, 564, 76, 565, 566, 77, 567, 74, 568, 569, 570, 56, 571, 370, 366, 369, 479, 480, 572, 573, 574, 575, 576, 577, 528, 529, 530, 578, 579, 580, 581, 582, 583, 584, 585, 586, 587, 588, 589, 590, 75, 591, 695, 603, 604, 605, 606, 607, 608, 609, 610, 611, 612, 978, 979, 980, 981, 982, 983, 984, 985, 986, 987, 1029, 1030, 1031, 1032, 1033, 1034, 1018, 1019, 1020, 1021, 1022, 1023, 1035, 1036, 1037, 1038, 1039, 1040, 1041, 1042, 1043, 1044, 1045, 1046] (by decide +kernel) (by decide +kernel)
set_option maxRecDepth 20000 in
theorem gL_law_X7_left : GoodIn wsL_law (wsV RL 77 RX7 yX7_left wsX7_left) := goodIn_app (goodIn_of _ (by decide +kernel)) ggL_law_X7_left
set_option maxRecDepth 20000 in
theorem ggL_law_X8_left : GoodIn wsL_law wsX8_left := goodIn_r _ [699, 125, 633, 86, 485, 486, 487, 5, 488, 130, 131, 132, 625, 626, 627, 628, 508, 509, 510, 511, 649, 650, 651, 652, 653, 654, 655, 656, 657, 424, 489, 490, 491, 492, 658, 659, 660, 661, 642, 643, 644, 645, 646, 647, 648, 988, 989, 990, 991, 992, 993, 994, 995, 996, 997, 998, 999, 1000, 1001, 1002, 1003, 1004, 1005, 1006, 1007, 1008] (by decide +kernel) (by decide +kernel)
set_option maxRecDepth 20000 in
theorem gL_law_X8_left : GoodIn wsL_law (wsV RL 81 RX8 yX8_left wsX8_left) := goodIn_app (goodIn_of _ (by decide +kernel)) ggL_law_X8_left
