set_option maxRecDepth 20000 in
theorem ggL_law_X9_saying : GoodIn wsL_law wsX9_saying := goodIn_r _ [445, 19, 446, 447, 448, 18, 449, 178, 450, 451, 452, 453, 59, 454, 455, 456, 457, 458, 61, 959, 960, 961, 962, 963, 964, 965, 966, 967, 968, 997, 998, 999, 1000, 1001, 1002, 1003, 1004, 1005] (by decide +kernel) (by decide +kernel)
set_option maxRecDepth 20000 in
theorem gL_law_X9_saying : GoodIn wsL_law (wsV RL 36 RX9 yX9_saying wsX9_saying) := goodIn_app (goodIn_of _ (by decide +kernel)) ggL_law_X9_saying
set_option maxRecDepth 20000 in
theorem ggL_law_X10_saying : GoodIn wsL_law wsX10_saying := goodIn_r _ [462, 307, 274, 328, 329, 5, 330, 969, 970, 971, 972, 973, 974, 975, 976, 977, 978, 979, 980, 981, 982, 983, 984, 985, 986, 987, 988, 989, 990, 991, 992, 993] (by decide +kernel) (by decide +kernel)
set_option maxRecDepth 20000 in
theorem gL_law_X10_saying : GoodIn wsL_law (wsV RL 39 RX10 yX10_saying wsX10_saying) := goodIn_app (goodIn_of _ (by decide +kernel)) ggL_law_X10_saying
set_option maxRecDepth 20000 in
theorem ggL_law_X9_asking : GoodIn wsL_law wsX9_asking := goodIn_r _ [466, 19, 24, 446, 447, 448, 18, 449, 178, 401, 247, 248, 249, 177, 467, 468, 469, 23, 470, 226, 471, 472, 473, 474, 180, 475, 456, 457, 458, 61, 454, 476, 451, 452, 453, 59, 477, 403, 404, 405, 56, 246, 478, 479, 480, 481, 482, 483, 484, 959, 960, 961, 962, 963, 964, 965, 966, 967, 968, 997, 998, 999, 1000, 1001, 1002, 1003, 1004, 1005, 1006, 1007, 1008, 1009, 1010, 1011, 1012, 1013] (by decide +kernel) (by decide +kernel)
set_option maxRecDepth 20000 in
theorem gL_law_X9_asking : GoodIn wsL_law (wsV RL 40 RX9 yX9_asking wsX9_asking) := goodIn_app (goodIn_of _ (by decide +kernel)) ggL_law_X9_asking
set_option maxRecDepth 20000 in
theorem ggL_law_X10_asking : GoodIn wsL_law wsX10_asking := goodIn_r _ [488, 307, 275, 328, 329, 5, 330, 430, 431, 432, 433, 306, 434, 435, 436, 437, 284, 312, 313, 314, 489, 490, 491, 492, 274, 273, 308, 493, 494, 495, 969, 970, 971, 972, 973, 974, 975, 976, 977, 978, 979, 980, 981, 982, 983, 984, 985, 986, 987, 988, 989, 990, 991, 992, 993] (by decide +kernel) (by decide +kernel)
set_option maxRecDepth 20000 in
theorem gL_law_X10_asking : GoodIn wsL_law (wsV RL 43 RX10 yX10_asking wsX10_asking) := goodIn_app (goodIn_of _ (by decide +kernel)) ggL_law_X10_asking
set_option maxRecDepth 20000 in
theorem ggL_law_X9_knows : GoodIn wsL_law wsX9_knows := goodIn_r _ [499, 19, 24, 401, 247, 248, 18, 249, 177, 500, 501, 502, 23, 503, 68, 504, 411, 412, 67, 413, 234, 235, 77, 505, 506, 507, 508, 509, 415, 416, 417, 58, 246, 510, 511, 512, 513, 69, 959, 960, 961, 962, 963, 964, 965, 966, 967, 968, 997, 998, 999, 1000, 1001, 1002, 1003, 1004, 1005, 1006, 1007, 1008, 1009, 1010, 1011, 1012, 1013, 1029, 1030, 1031, 1032, 1033] (by decide +kernel) (by decide +kernel)
set_option maxRecDepth 20000 in
theorem gL_law_X9_knows : GoodIn wsL_law (wsV RL 44 RX9 yX9_knows wsX9_knows) := goodIn_app (goodIn_of _ (by decide +kernel)) ggL_law_X9_knows
set_option maxRecDepth 20000 in
theorem ggL_law_X10_knows : GoodIn wsL_law wsX10_knows := goodIn_r _ [517, 275, 430, 431, 432, 5, 433, 306, 328, 329, 330, 434, 435, 436, 437, 284, 312, 313, 314, 518, 519, 520, 521, 273, 438, 439, 440, 441, 969, 970, 971, 972, 973, 974, 975, 976, 977, 978, 979, 980, 981, 982, 983, 984, 985, 986, 987, 988, 989, 990, 991, 992, 993] (by decide +kernel) (by decide +kernel)
set_option maxRecDepth 20000 in
theorem gL_law_X10_knows : GoodIn wsL_law (wsV RL 47 RX10 yX10_knows wsX10_knows) := goodIn_app (goodIn_of _ (by decide +kernel)) ggL_law_X10_knows
