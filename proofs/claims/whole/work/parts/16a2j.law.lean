set_option maxRecDepth 20000 in
theorem ggL_law_X9_back : GoodIn wsL_law wsX9_back := goodIn_r _ [941, 29, 24, 28, 632, 633, 634, 27, 635, 259, 636, 637, 638, 639, 534, 87, 536, 537, 538, 539, 540, 541, 542, 23, 543, 68, 69, 544, 545, 546, 547, 70, 71, 72, 73, 225, 226, 548, 549, 550, 67, 551, 77, 552, 234, 235, 236, 237, 255, 256, 257, 258, 959, 960, 961, 962, 963, 964, 965, 966, 967, 968, 1014, 1015, 1016, 1006, 1007, 1008, 1009, 1010, 1011, 1012, 1013, 1029, 1030, 1031, 1032, 1033] (by decide +kernel) (by decide +kernel)
set_option maxRecDepth 20000 in
theorem gL_law_X9_back : GoodIn wsL_law (wsV RL 122 RX9 yX9_back wsX9_back) := goodIn_app (goodIn_of _ (by decide +kernel)) ggL_law_X9_back
set_option maxRecDepth 20000 in
theorem ggL_law_X10_back : GoodIn wsL_law wsX10_back := goodIn_r _ [945, 310, 275, 278, 309, 969, 970, 971, 972, 973, 974, 975, 976, 977, 978, 979, 980, 981, 982, 983, 984, 985, 986, 987, 988, 989, 990, 991, 992, 993] (by decide +kernel) (by decide +kernel)
set_option maxRecDepth 20000 in
theorem gL_law_X10_back : GoodIn wsL_law (wsV RL 125 RX10 yX10_back wsX10_back) := goodIn_app (goodIn_of _ (by decide +kernel)) ggL_law_X10_back
set_option maxRecDepth 20000 in
theorem ggL_law_X9_count : GoodIn wsL_law wsX9_count := goodIn_r _ [949, 19, 24, 33, 28, 29, 15, 391, 239, 240, 18, 241, 177, 950, 907, 908, 909, 178, 467, 468, 469, 23, 470, 226, 951, 952, 953, 954, 180, 406, 407, 408, 409, 68, 586, 506, 507, 67, 508, 235, 418, 419, 420, 421, 237, 745, 746, 747, 32, 748, 264, 632, 633, 634, 27, 635, 259, 319, 320, 321, 14, 322, 164, 526, 527, 528, 529, 225, 959, 960, 961, 962, 963, 964, 965, 966, 967, 968, 997, 998, 999, 1000, 1001, 1002, 1003, 1004, 1005, 1006, 1007, 1008, 1009, 1010, 1011, 1012, 1013, 1029, 1030, 1031, 1032, 1033, 1017, 1018, 1019, 1020, 1014, 1015, 1016, 994, 995, 996] (by decide +kernel) (by decide +kernel)
set_option maxRecDepth 20000 in
theorem gL_law_X9_count : GoodIn wsL_law (wsV RL 126 RX9 yX9_count wsX9_count) := goodIn_app (goodIn_of _ (by decide +kernel)) ggL_law_X9_count
set_option maxRecDepth 20000 in
theorem ggL_law_X10_count : GoodIn wsL_law wsX10_count := goodIn_r _ [958, 306, 307, 275, 308, 311, 309, 310, 327, 969, 970, 971, 972, 973, 974, 975, 976, 977, 978, 979, 980, 981, 982, 983, 984, 985, 986, 987, 988, 989, 990, 991, 992, 993] (by decide +kernel) (by decide +kernel)
set_option maxRecDepth 20000 in
theorem gL_law_X10_count : GoodIn wsL_law (wsV RL 129 RX10 yX10_count wsX10_count) := goodIn_app (goodIn_of _ (by decide +kernel)) ggL_law_X10_count
