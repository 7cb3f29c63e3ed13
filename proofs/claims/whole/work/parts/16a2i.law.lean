set_option maxRecDepth 20000 in
theorem ggL_law_X9_lasts : GoodIn wsL_law wsX9_lasts := goodIn_r _ [846, 847, 41, 24, 19, 406, 407, 408, 23, 409, 68, 848, 849, 850, 18, 851, 177, 477, 403, 404, 405, 56, 246, 247, 248, 249, 852, 853, 854, 40, 855, 105, 856, 857, 858, 859, 549, 550, 67, 551, 77, 552, 545, 546, 547, 234, 235, 236, 237, 860, 596, 597, 598, 599, 411, 412, 413, 861, 592, 593, 594, 595, 862, 419, 420, 421, 863, 864, 865, 866, 867, 868, 869, 870, 871, 872, 873, 874, 959, 960, 961, 962, 963, 964, 965, 966, 967, 968, 1006, 1007, 1008, 1009, 1010, 1011, 1012, 1013, 997, 998, 999, 1000, 1001, 1002, 1003, 1004, 1005, 1024, 1025, 1026, 1029, 1030, 1031, 1032, 1033] (by decide +kernel) (by decide +kernel)
set_option maxRecDepth 20000 in
theorem gL_law_X9_lasts : GoodIn wsL_law (wsV RL 108 RX9 yX9_lasts wsX9_lasts) := goodIn_app (goodIn_of _ (by decide +kernel)) ggL_law_X9_lasts
set_option maxRecDepth 20000 in
theorem ggL_law_X10_lasts : GoodIn wsL_law wsX10_lasts := goodIn_r _ [878, 879, 306, 273, 880, 275, 284, 328, 329, 5, 330, 434, 435, 436, 437, 312, 313, 314, 578, 579, 580, 581, 604, 605, 606, 607, 608, 609, 610, 611, 612, 613, 614, 615, 438, 439, 440, 441, 969, 970, 971, 972, 973, 974, 975, 976, 977, 978, 979, 980, 981, 982, 983, 984, 985, 986, 987, 988, 989, 990, 991, 992, 993] (by decide +kernel) (by decide +kernel)
set_option maxRecDepth 20000 in
theorem gL_law_X10_lasts : GoodIn wsL_law (wsV RL 112 RX10 yX10_lasts wsX10_lasts) := goodIn_app (goodIn_of _ (by decide +kernel)) ggL_law_X10_lasts
set_option maxRecDepth 20000 in
theorem ggL_law_X9_year : GoodIn wsL_law wsX9_year := goodIn_r _ [884, 45, 19, 24, 885, 886, 887, 44, 888, 110, 889, 890, 407, 408, 23, 409, 68, 891, 549, 550, 67, 551, 77, 552, 545, 546, 547, 234, 235, 236, 237, 892, 468, 469, 470, 226, 893, 894, 895, 896, 897, 898, 899, 900, 901, 902, 903, 904, 905, 239, 240, 18, 241, 177, 906, 907, 908, 909, 178, 910, 472, 473, 474, 180, 475, 456, 457, 458, 61, 454, 447, 448, 449, 476, 451, 452, 453, 59, 477, 403, 404, 405, 56, 246, 247, 248, 249, 478, 479, 480, 481, 482, 483, 484, 911, 563, 564, 565, 912, 419, 420, 421, 913, 592, 593, 594, 595, 596, 597, 598, 599, 411, 412, 413, 914, 915, 916, 917, 918, 919, 920, 921, 959, 960, 961, 962, 963, 964, 965, 966, 967, 968, 1027, 1028, 1006, 1007, 1008, 1009, 1010, 1011, 1012, 1013, 1029, 1030, 1031, 1032, 1033, 997, 998, 999, 1000, 1001, 1002, 1003, 1004, 1005] (by decide +kernel) (by decide +kernel)
set_option maxRecDepth 20000 in
theorem gL_law_X9_year : GoodIn wsL_law (wsV RL 113 RX9 yX9_year wsX9_year) := goodIn_app (goodIn_of _ (by decide +kernel)) ggL_law_X9_year
set_option maxRecDepth 20000 in
theorem ggL_law_X10_year : GoodIn wsL_law wsX10_year := goodIn_r _ [925, 275, 926, 927, 928, 929, 306, 307, 284, 328, 329, 5, 330, 434, 435, 436, 437, 312, 313, 314, 574, 575, 576, 577, 489, 490, 491, 492, 274, 273, 308, 493, 494, 495, 578, 579, 580, 581, 604, 605, 606, 607, 608, 609, 610, 611, 612, 613, 614, 615, 438, 439, 440, 441, 969, 970, 971, 972, 973, 974, 975, 976, 977, 978, 979, 980, 981, 982, 983, 984, 985, 986, 987, 988, 989, 990, 991, 992, 993] (by decide +kernel) (by decide +kernel)
set_option maxRecDepth 20000 in
theorem gL_law_X10_year : GoodIn wsL_law (wsV RL 117 RX10 yX10_year wsX10_year) := goodIn_app (goodIn_of _ (by decide +kernel)) ggL_law_X10_year
set_option maxRecDepth 20000 in
theorem ggL_law_X9_keep : GoodIn wsL_law wsX9_keep := goodIn_r _ [933, 29, 24, 632, 633, 634, 27, 635, 259, 530, 531, 532, 533, 534, 87, 535, 232, 84, 233, 536, 537, 538, 539, 540, 541, 542, 23, 543, 68, 69, 544, 545, 546, 547, 70, 71, 72, 73, 225, 226, 548, 549, 550, 67, 551, 77, 552, 234, 235, 236, 237, 959, 960, 961, 962, 963, 964, 965, 966, 967, 968, 1014, 1015, 1016, 1006, 1007, 1008, 1009, 1010, 1011, 1012, 1013, 1029, 1030, 1031, 1032, 1033] (by decide +kernel) (by decide +kernel)
set_option maxRecDepth 20000 in
theorem gL_law_X9_keep : GoodIn wsL_law (wsV RL 118 RX9 yX9_keep wsX9_keep) := goodIn_app (goodIn_of _ (by decide +kernel)) ggL_law_X9_keep
set_option maxRecDepth 20000 in
theorem ggL_law_X10_keep : GoodIn wsL_law wsX10_keep := goodIn_r _ [937, 310, 278, 275, 312, 313, 5, 314, 969, 970, 971, 972, 973, 974, 975, 976, 977, 978, 979, 980, 981, 982, 983, 984, 985, 986, 987, 988, 989, 990, 991, 992, 993] (by decide +kernel) (by decide +kernel)
set_option maxRecDepth 20000 in
theorem gL_law_X10_keep : GoodIn wsL_law (wsV RL 121 RX10 yX10_keep wsX10_keep) := goodIn_app (goodIn_of _ (by decide +kernel)) ggL_law_X10_keep
