set_option maxRecDepth 20000 in
theorem ggL_law_X9_thinks : GoodIn wsL_law wsX9_thinks := goodIn_r _ [668, 19, 24, 401, 247, 248, 18, 249, 177, 669, 670, 671, 23, 672, 673, 239, 240, 241, 674, 501, 502, 503, 68, 504, 411, 412, 67, 413, 234, 235, 77, 505, 506, 507, 508, 509, 415, 416, 417, 58, 246, 510, 511, 512, 513, 69, 959, 960, 961, 962, 963, 964, 965, 966, 967, 968, 997, 998, 999, 1000, 1001, 1002, 1003, 1004, 1005, 1006, 1007, 1008, 1009, 1010, 1011, 1012, 1013, 1029, 1030, 1031, 1032, 1033] (by decide +kernel) (by decide +kernel)
set_option maxRecDepth 20000 in
theorem gL_law_X9_thinks : GoodIn wsL_law (wsV RL 72 RX9 yX9_thinks wsX9_thinks) := goodIn_app (goodIn_of _ (by decide +kernel)) ggL_law_X9_thinks
set_option maxRecDepth 20000 in
theorem ggL_law_X10_thinks : GoodIn wsL_law wsX10_thinks := goodIn_r _ [678, 275, 306, 430, 431, 432, 5, 433, 328, 329, 330, 434, 435, 436, 437, 284, 312, 313, 314, 518, 519, 520, 521, 273, 438, 439, 440, 441, 969, 970, 971, 972, 973, 974, 975, 976, 977, 978, 979, 980, 981, 982, 983, 984, 985, 986, 987, 988, 989, 990, 991, 992, 993] (by decide +kernel) (by decide +kernel)
set_option maxRecDepth 20000 in
theorem gL_law_X10_thinks : GoodIn wsL_law (wsV RL 75 RX10 yX10_thinks wsX10_thinks) := goodIn_app (goodIn_of _ (by decide +kernel)) ggL_law_X10_thinks
set_option maxRecDepth 20000 in
theorem ggL_law_X9_make : GoodIn wsL_law wsX9_make := goodIn_r _ [682, 19, 24, 401, 247, 248, 18, 249, 177, 406, 407, 408, 23, 409, 68, 683, 684, 685, 67, 686, 234, 236, 687, 479, 480, 481, 482, 483, 484, 595, 596, 597, 598, 599, 411, 412, 413, 235, 77, 959, 960, 961, 962, 963, 964, 965, 966, 967, 968, 997, 998, 999, 1000, 1001, 1002, 1003, 1004, 1005, 1006, 1007, 1008, 1009, 1010, 1011, 1012, 1013, 1029, 1030, 1031, 1032, 1033] (by decide +kernel) (by decide +kernel)
set_option maxRecDepth 20000 in
theorem gL_law_X9_make : GoodIn wsL_law (wsV RL 76 RX9 yX9_make wsX9_make) := goodIn_app (goodIn_of _ (by decide +kernel)) ggL_law_X9_make
set_option maxRecDepth 20000 in
theorem ggL_law_X10_make : GoodIn wsL_law wsX10_make := goodIn_r _ [691, 275, 306, 430, 431, 432, 5, 433, 328, 329, 330, 434, 435, 436, 437, 284, 312, 313, 314, 608, 609, 610, 611, 612, 613, 614, 615, 438, 439, 440, 441, 493, 494, 495, 969, 970, 971, 972, 973, 974, 975, 976, 977, 978, 979, 980, 981, 982, 983, 984, 985, 986, 987, 988, 989, 990, 991, 992, 993] (by decide +kernel) (by decide +kernel)
set_option maxRecDepth 20000 in
theorem gL_law_X10_make : GoodIn wsL_law (wsV RL 79 RX10 yX10_make wsX10_make) := goodIn_app (goodIn_of _ (by decide +kernel)) ggL_law_X10_make
set_option maxRecDepth 20000 in
theorem ggL_law_X9_byTurns : GoodIn wsL_law wsX9_byTurns := goodIn_r _ [695, 37, 24, 406, 407, 408, 23, 409, 68, 696, 697, 698, 36, 699, 700, 83, 84, 85, 98, 701, 702, 703, 67, 704, 234, 705, 706, 707, 708, 100, 709, 549, 550, 551, 77, 552, 545, 546, 547, 235, 236, 237, 710, 563, 564, 565, 711, 592, 593, 594, 595, 596, 597, 598, 599, 411, 412, 413, 712, 419, 420, 421, 713, 714, 715, 716, 717, 718, 719, 720, 721, 722, 723, 724, 725, 726, 727, 728, 729, 959, 960, 961, 962, 963, 964, 965, 966, 967, 968, 1006, 1007, 1008, 1009, 1010, 1011, 1012, 1013, 1021, 1022, 1023, 1029, 1030, 1031, 1032, 1033] (by decide +kernel) (by decide +kernel)
set_option maxRecDepth 20000 in
theorem gL_law_X9_byTurns : GoodIn wsL_law (wsV RL 80 RX9 yX9_byTurns wsX9_byTurns) := goodIn_app (goodIn_of _ (by decide +kernel)) ggL_law_X9_byTurns
set_option maxRecDepth 20000 in
theorem ggL_law_X10_byTurns : GoodIn wsL_law wsX10_byTurns := goodIn_r _ [733, 275, 306, 285, 284, 328, 329, 5, 330, 434, 435, 436, 437, 312, 313, 314, 578, 579, 580, 581, 604, 605, 606, 607, 608, 609, 610, 611, 612, 613, 614, 615, 438, 439, 440, 441, 734, 735, 736, 969, 970, 971, 972, 973, 974, 975, 976, 977, 978, 979, 980, 981, 982, 983, 984, 985, 986, 987, 988, 989, 990, 991, 992, 993] (by decide +kernel) (by decide +kernel)
set_option maxRecDepth 20000 in
theorem gL_law_X10_byTurns : GoodIn wsL_law (wsV RL 83 RX10 yX10_byTurns wsX10_byTurns) := goodIn_app (goodIn_of _ (by decide +kernel)) ggL_law_X10_byTurns
