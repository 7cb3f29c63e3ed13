set_option maxRecDepth 20000 in
theorem ggL_law_X9_quiet : GoodIn wsL_law wsX9_quiet := goodIn_r _ [799, 19, 24, 467, 468, 469, 23, 470, 226, 800, 801, 802, 18, 803, 178, 177, 804, 472, 473, 474, 180, 475, 456, 457, 458, 61, 454, 447, 448, 449, 476, 451, 452, 453, 59, 477, 403, 404, 405, 56, 246, 247, 248, 249, 478, 479, 480, 481, 482, 483, 484, 959, 960, 961, 962, 963, 964, 965, 966, 967, 968, 1006, 1007, 1008, 1009, 1010, 1011, 1012, 1013, 997, 998, 999, 1000, 1001, 1002, 1003, 1004, 1005] (by decide +kernel) (by decide +kernel)
set_option maxRecDepth 20000 in
theorem gL_law_X9_quiet : GoodIn wsL_law (wsV RL 96 RX9 yX9_quiet wsX9_quiet) := goodIn_app (goodIn_of _ (by decide +kernel)) ggL_law_X9_quiet
set_option maxRecDepth 20000 in
theorem ggL_law_X10_quiet : GoodIn wsL_law wsX10_quiet := goodIn_r _ [808, 275, 307, 306, 434, 435, 436, 5, 437, 284, 312, 313, 314, 489, 490, 491, 492, 274, 273, 308, 493, 494, 495, 969, 970, 971, 972, 973, 974, 975, 976, 977, 978, 979, 980, 981, 982, 983, 984, 985, 986, 987, 988, 989, 990, 991, 992, 993] (by decide +kernel) (by decide +kernel)
set_option maxRecDepth 20000 in
theorem gL_law_X10_quiet : GoodIn wsL_law (wsV RL 99 RX10 yX10_quiet wsX10_quiet) := goodIn_app (goodIn_of _ (by decide +kernel)) ggL_law_X10_quiet
set_option maxRecDepth 20000 in
theorem ggL_law_X9_cloak : GoodIn wsL_law wsX9_cloak := goodIn_r _ [812, 19, 24, 401, 247, 248, 18, 249, 177, 467, 468, 469, 23, 470, 226, 813, 814, 815, 816, 178, 804, 472, 473, 474, 180, 475, 456, 457, 458, 61, 454, 447, 448, 449, 476, 451, 452, 453, 59, 477, 403, 404, 405, 56, 246, 478, 479, 480, 481, 482, 483, 484, 817, 818, 819, 820, 821, 959, 960, 961, 962, 963, 964, 965, 966, 967, 968, 997, 998, 999, 1000, 1001, 1002, 1003, 1004, 1005, 1006, 1007, 1008, 1009, 1010, 1011, 1012, 1013] (by decide +kernel) (by decide +kernel)
set_option maxRecDepth 20000 in
theorem gL_law_X9_cloak : GoodIn wsL_law (wsV RL 100 RX9 yX9_cloak wsX9_cloak) := goodIn_app (goodIn_of _ (by decide +kernel)) ggL_law_X9_cloak
set_option maxRecDepth 20000 in
theorem ggL_law_X10_cloak : GoodIn wsL_law wsX10_cloak := goodIn_r _ [825, 275, 307, 274, 284, 430, 431, 432, 5, 433, 306, 328, 329, 330, 434, 435, 436, 437, 312, 313, 314, 493, 494, 495, 489, 490, 491, 492, 273, 308, 969, 970, 971, 972, 973, 974, 975, 976, 977, 978, 979, 980, 981, 982, 983, 984, 985, 986, 987, 988, 989, 990, 991, 992, 993] (by decide +kernel) (by decide +kernel)
set_option maxRecDepth 20000 in
theorem gL_law_X10_cloak : GoodIn wsL_law (wsV RL 103 RX10 yX10_cloak wsX10_cloak) := goodIn_app (goodIn_of _ (by decide +kernel)) ggL_law_X10_cloak
set_option maxRecDepth 20000 in
theorem ggL_law_X9_allKnow : GoodIn wsL_law wsX9_allKnow := goodIn_r _ [829, 24, 19, 830, 831, 832, 23, 833, 834, 835, 836, 837, 838, 83, 84, 85, 673, 239, 240, 18, 241, 177, 509, 415, 416, 417, 58, 246, 247, 248, 249, 510, 511, 512, 513, 69, 959, 960, 961, 962, 963, 964, 965, 966, 967, 968, 997, 998, 999, 1000, 1001, 1002, 1003, 1004, 1005, 1006, 1007, 1008, 1009, 1010, 1011, 1012, 1013] (by decide +kernel) (by decide +kernel)
set_option maxRecDepth 20000 in
theorem gL_law_X9_allKnow : GoodIn wsL_law (wsV RL 104 RX9 yX9_allKnow wsX9_allKnow) := goodIn_app (goodIn_of _ (by decide +kernel)) ggL_law_X9_allKnow
set_option maxRecDepth 20000 in
theorem ggL_law_X10_allKnow : GoodIn wsL_law wsX10_allKnow := goodIn_r _ [842, 275, 306, 434, 435, 436, 5, 437, 284, 312, 313, 314, 518, 519, 520, 521, 273, 438, 439, 440, 441, 604, 605, 606, 607, 608, 609, 610, 611, 612, 613, 614, 615, 969, 970, 971, 972, 973, 974, 975, 976, 977, 978, 979, 980, 981, 982, 983, 984, 985, 986, 987, 988, 989, 990, 991, 992, 993] (by decide +kernel) (by decide +kernel)
set_option maxRecDepth 20000 in
theorem gL_law_X10_allKnow : GoodIn wsL_law (wsV RL 107 RX10 yX10_allKnow wsX10_allKnow) := goodIn_app (goodIn_of _ (by decide +kernel)) ggL_law_X10_allKnow
