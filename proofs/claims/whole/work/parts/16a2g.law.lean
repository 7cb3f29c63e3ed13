set_option maxRecDepth 20000 in
theorem ggL_law_X9_took : GoodIn wsL_law wsX9_took := goodIn_r _ [740, 24, 19, 33, 406, 407, 408, 23, 409, 68, 586, 506, 507, 67, 508, 235, 401, 247, 248, 18, 249, 177, 741, 742, 743, 32, 744, 264, 91, 92, 745, 746, 747, 748, 959, 960, 961, 962, 963, 964, 965, 966, 967, 968, 1006, 1007, 1008, 1009, 1010, 1011, 1012, 1013, 1029, 1030, 1031, 1032, 1033, 997, 998, 999, 1000, 1001, 1002, 1003, 1004, 1005, 1017, 1018, 1019, 1020] (by decide +kernel) (by decide +kernel)
set_option maxRecDepth 20000 in
theorem gL_law_X9_took : GoodIn wsL_law (wsV RL 84 RX9 yX9_took wsX9_took) := goodIn_app (goodIn_of _ (by decide +kernel)) ggL_law_X9_took
set_option maxRecDepth 20000 in
theorem ggL_law_X10_took : GoodIn wsL_law wsX10_took := goodIn_r _ [752, 275, 311, 279, 328, 329, 5, 330, 430, 431, 432, 433, 306, 969, 970, 971, 972, 973, 974, 975, 976, 977, 978, 979, 980, 981, 982, 983, 984, 985, 986, 987, 988, 989, 990, 991, 992, 993] (by decide +kernel) (by decide +kernel)
set_option maxRecDepth 20000 in
theorem gL_law_X10_took : GoodIn wsL_law (wsV RL 87 RX10 yX10_took wsX10_took) := goodIn_app (goodIn_of _ (by decide +kernel)) ggL_law_X10_took
set_option maxRecDepth 20000 in
theorem ggL_law_X9_forget : GoodIn wsL_law wsX9_forget := goodIn_r _ [756, 33, 745, 746, 747, 32, 748, 264, 260, 261, 262, 263, 959, 960, 961, 962, 963, 964, 965, 966, 967, 968, 1017, 1018, 1019, 1020] (by decide +kernel) (by decide +kernel)
set_option maxRecDepth 20000 in
theorem gL_law_X9_forget : GoodIn wsL_law (wsV RL 88 RX9 yX9_forget wsX9_forget) := goodIn_app (goodIn_of _ (by decide +kernel)) ggL_law_X9_forget
set_option maxRecDepth 20000 in
theorem ggL_law_X10_forget : GoodIn wsL_law wsX10_forget := goodIn_r _ [760, 311, 969, 970, 971, 972, 973, 974, 975, 976, 977, 978, 979, 980, 981, 982, 983, 984, 985, 986, 987, 988, 989, 990, 991, 992, 993] (by decide +kernel) (by decide +kernel)
set_option maxRecDepth 20000 in
theorem gL_law_X10_forget : GoodIn wsL_law (wsV RL 91 RX10 yX10_forget wsX10_forget) := goodIn_app (goodIn_of _ (by decide +kernel)) ggL_law_X10_forget
set_option maxRecDepth 20000 in
theorem ggL_law_X9_deeds : GoodIn wsL_law wsX9_deeds := goodIn_r _ [764, 33, 19, 24, 765, 766, 767, 32, 768, 769, 770, 771, 772, 94, 773, 228, 229, 67, 230, 231, 232, 84, 233, 234, 77, 235, 236, 237, 238, 239, 240, 18, 241, 177, 242, 243, 244, 245, 57, 246, 247, 248, 249, 774, 775, 776, 23, 777, 71, 72, 73, 561, 472, 473, 474, 180, 475, 456, 457, 458, 61, 454, 447, 448, 449, 178, 476, 451, 452, 453, 59, 477, 403, 404, 405, 56, 478, 479, 480, 481, 482, 483, 484, 562, 563, 564, 565, 778, 592, 593, 594, 595, 596, 597, 598, 599, 411, 412, 413, 779, 419, 420, 421, 780, 781, 782, 783, 264, 91, 92, 784, 785, 786, 787, 959, 960, 961, 962, 963, 964, 965, 966, 967, 968, 1017, 1018, 1019, 1020, 1029, 1030, 1031, 1032, 1033, 997, 998, 999, 1000, 1001, 1002, 1003, 1004, 1005, 1006, 1007, 1008, 1009, 1010, 1011, 1012, 1013] (by decide +kernel) (by decide +kernel)
set_option maxRecDepth 20000 in
theorem gL_law_X9_deeds : GoodIn wsL_law (wsV RL 92 RX9 yX9_deeds wsX9_deeds) := goodIn_app (goodIn_of _ (by decide +kernel)) ggL_law_X9_deeds
set_option maxRecDepth 20000 in
theorem ggL_law_X10_deeds : GoodIn wsL_law wsX10_deeds := goodIn_r _ [791, 328, 329, 5, 330, 792, 793, 794, 795, 276, 284, 275, 311, 279, 434, 435, 436, 437, 312, 313, 314, 574, 575, 576, 577, 489, 490, 491, 492, 274, 273, 308, 493, 494, 495, 578, 579, 580, 581, 604, 605, 606, 607, 306, 608, 609, 610, 611, 612, 613, 614, 615, 438, 439, 440, 441, 969, 970, 971, 972, 973, 974, 975, 976, 977, 978, 979, 980, 981, 982, 983, 984, 985, 986, 987, 988, 989, 990, 991, 992, 993] (by decide +kernel) (by decide +kernel)
set_option maxRecDepth 20000 in
theorem gL_law_X10_deeds : GoodIn wsL_law (wsV RL 95 RX10 yX10_deeds wsX10_deeds) := goodIn_app (goodIn_of _ (by decide +kernel)) ggL_law_X10_deeds
