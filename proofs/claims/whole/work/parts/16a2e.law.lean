set_option maxRecDepth 20000 in
theorem ggL_law_X9_undo : GoodIn wsL_law wsX9_undo := goodIn_r _ [631, 28, 24, 632, 633, 634, 27, 635, 259, 636, 637, 638, 639, 534, 87, 536, 537, 538, 539, 540, 541, 542, 23, 543, 68, 69, 544, 545, 546, 547, 70, 71, 72, 73, 225, 226, 548, 549, 550, 67, 551, 77, 552, 234, 235, 236, 237, 959, 960, 961, 962, 963, 964, 965, 966, 967, 968, 1014, 1015, 1016, 1006, 1007, 1008, 1009, 1010, 1011, 1012, 1013, 1029, 1030, 1031, 1032, 1033] (by decide +kernel) (by decide +kernel)
set_option maxRecDepth 20000 in
theorem gL_law_X9_undo : GoodIn wsL_law (wsV RL 60 RX9 yX9_undo wsX9_undo) := goodIn_app (goodIn_of _ (by decide +kernel)) ggL_law_X9_undo
set_option maxRecDepth 20000 in
theorem ggL_law_X10_undo : GoodIn wsL_law wsX10_undo := goodIn_r _ [643, 309, 275, 277, 969, 970, 971, 972, 973, 974, 975, 976, 977, 978, 979, 980, 981, 982, 983, 984, 985, 986, 987, 988, 989, 990, 991, 992, 993] (by decide +kernel) (by decide +kernel)
set_option maxRecDepth 20000 in
theorem gL_law_X10_undo : GoodIn wsL_law (wsV RL 63 RX10 yX10_undo wsX10_undo) := goodIn_app (goodIn_of _ (by decide +kernel)) ggL_law_X10_undo
set_option maxRecDepth 20000 in
theorem ggL_law_X9_heir : GoodIn wsL_law wsX9_heir := goodIn_r _ [647, 19, 24, 401, 247, 248, 18, 249, 177, 406, 407, 408, 23, 409, 68, 648, 596, 597, 67, 598, 234, 599, 411, 412, 413, 235, 77, 959, 960, 961, 962, 963, 964, 965, 966, 967, 968, 997, 998, 999, 1000, 1001, 1002, 1003, 1004, 1005, 1006, 1007, 1008, 1009, 1010, 1011, 1012, 1013, 1029, 1030, 1031, 1032, 1033] (by decide +kernel) (by decide +kernel)
set_option maxRecDepth 20000 in
theorem gL_law_X9_heir : GoodIn wsL_law (wsV RL 64 RX9 yX9_heir wsX9_heir) := goodIn_app (goodIn_of _ (by decide +kernel)) ggL_law_X9_heir
set_option maxRecDepth 20000 in
theorem ggL_law_X10_heir : GoodIn wsL_law wsX10_heir := goodIn_r _ [652, 275, 430, 431, 432, 5, 433, 306, 328, 329, 330, 434, 435, 436, 437, 284, 312, 313, 314, 612, 613, 614, 615, 438, 439, 440, 441, 969, 970, 971, 972, 973, 974, 975, 976, 977, 978, 979, 980, 981, 982, 983, 984, 985, 986, 987, 988, 989, 990, 991, 992, 993] (by decide +kernel) (by decide +kernel)
set_option maxRecDepth 20000 in
theorem gL_law_X10_heir : GoodIn wsL_law (wsV RL 67 RX10 yX10_heir wsX10_heir) := goodIn_app (goodIn_of _ (by decide +kernel)) ggL_law_X10_heir
set_option maxRecDepth 20000 in
theorem ggL_law_X9_among : GoodIn wsL_law wsX9_among := goodIn_r _ [656, 24, 406, 407, 408, 23, 409, 68, 657, 658, 659, 67, 660, 234, 595, 596, 597, 598, 599, 411, 412, 413, 235, 77, 959, 960, 961, 962, 963, 964, 965, 966, 967, 968, 1006, 1007, 1008, 1009, 1010, 1011, 1012, 1013, 1029, 1030, 1031, 1032, 1033] (by decide +kernel) (by decide +kernel)
set_option maxRecDepth 20000 in
theorem gL_law_X9_among : GoodIn wsL_law (wsV RL 68 RX9 yX9_among wsX9_among) := goodIn_app (goodIn_of _ (by decide +kernel)) ggL_law_X9_among
set_option maxRecDepth 20000 in
theorem ggL_law_X10_among : GoodIn wsL_law wsX10_among := goodIn_r _ [664, 275, 306, 434, 435, 436, 5, 437, 284, 312, 313, 314, 612, 613, 614, 615, 438, 439, 440, 441, 969, 970, 971, 972, 973, 974, 975, 976, 977, 978, 979, 980, 981, 982, 983, 984, 985, 986, 987, 988, 989, 990, 991, 992, 993] (by decide +kernel) (by decide +kernel)
set_option maxRecDepth 20000 in
theorem gL_law_X10_among : GoodIn wsL_law (wsV RL 71 RX10 yX10_among wsX10_among) := goodIn_app (goodIn_of _ (by decide +kernel)) ggL_law_X10_among
