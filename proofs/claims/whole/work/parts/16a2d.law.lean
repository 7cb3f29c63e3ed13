set_option maxRecDepth 20000 in
theorem ggL_law_X9_say : GoodIn wsL_law wsX9_say := goodIn_r _ [525, 19, 24, 28, 401, 247, 248, 18, 249, 177, 446, 447, 448, 449, 178, 526, 527, 528, 23, 529, 225, 530, 531, 532, 27, 533, 534, 87, 259, 535, 232, 84, 233, 536, 537, 538, 539, 540, 541, 542, 543, 68, 69, 544, 545, 546, 547, 70, 71, 72, 73, 226, 548, 549, 550, 67, 551, 77, 552, 234, 235, 236, 237, 553, 554, 555, 556, 557, 558, 559, 560, 505, 506, 507, 508, 561, 472, 473, 474, 180, 475, 456, 457, 458, 61, 454, 476, 451, 452, 453, 59, 477, 403, 404, 405, 56, 246, 478, 479, 480, 481, 482, 483, 484, 562, 563, 564, 565, 959, 960, 961, 962, 963, 964, 965, 966, 967, 968, 997, 998, 999, 1000, 1001, 1002, 1003, 1004, 1005, 1006, 1007, 1008, 1009, 1010, 1011, 1012, 1013, 1014, 1015, 1016, 1029, 1030, 1031, 1032, 1033] (by decide +kernel) (by decide +kernel)
set_option maxRecDepth 20000 in
theorem gL_law_X9_say : GoodIn wsL_law (wsV RL 48 RX9 yX9_say wsX9_say) := goodIn_app (goodIn_of _ (by decide +kernel)) ggL_law_X9_say
set_option maxRecDepth 20000 in
theorem ggL_law_X10_say : GoodIn wsL_law wsX10_say := goodIn_r _ [569, 307, 275, 284, 430, 431, 432, 5, 433, 306, 328, 329, 330, 570, 571, 572, 573, 309, 277, 312, 313, 314, 434, 435, 436, 437, 574, 575, 576, 577, 489, 490, 491, 492, 274, 273, 308, 493, 494, 495, 578, 579, 580, 581, 969, 970, 971, 972, 973, 974, 975, 976, 977, 978, 979, 980, 981, 982, 983, 984, 985, 986, 987, 988, 989, 990, 991, 992, 993] (by decide +kernel) (by decide +kernel)
set_option maxRecDepth 20000 in
theorem gL_law_X10_say : GoodIn wsL_law (wsV RL 51 RX10 yX10_say wsX10_say) := goodIn_app (goodIn_of _ (by decide +kernel)) ggL_law_X10_say
set_option maxRecDepth 20000 in
theorem ggL_law_X9_noon : GoodIn wsL_law wsX9_noon := goodIn_r _ [585, 24, 28, 406, 407, 408, 23, 409, 68, 586, 506, 507, 67, 508, 235, 530, 531, 532, 27, 533, 534, 87, 259, 535, 232, 84, 233, 536, 537, 538, 539, 540, 541, 542, 543, 69, 544, 545, 546, 547, 70, 71, 72, 73, 225, 226, 548, 549, 550, 551, 77, 552, 234, 236, 237, 587, 588, 589, 590, 591, 592, 593, 594, 595, 596, 597, 598, 599, 411, 412, 413, 418, 419, 420, 421, 959, 960, 961, 962, 963, 964, 965, 966, 967, 968, 1006, 1007, 1008, 1009, 1010, 1011, 1012, 1013, 1029, 1030, 1031, 1032, 1033, 1014, 1015, 1016] (by decide +kernel) (by decide +kernel)
set_option maxRecDepth 20000 in
theorem gL_law_X9_noon : GoodIn wsL_law (wsV RL 52 RX9 yX9_noon wsX9_noon) := goodIn_app (goodIn_of _ (by decide +kernel)) ggL_law_X9_noon
set_option maxRecDepth 20000 in
theorem ggL_law_X10_noon : GoodIn wsL_law wsX10_noon := goodIn_r _ [603, 275, 284, 570, 571, 572, 5, 573, 309, 277, 312, 313, 314, 434, 435, 436, 437, 604, 605, 606, 607, 306, 608, 609, 610, 611, 612, 613, 614, 615, 438, 439, 440, 441, 969, 970, 971, 972, 973, 974, 975, 976, 977, 978, 979, 980, 981, 982, 983, 984, 985, 986, 987, 988, 989, 990, 991, 992, 993] (by decide +kernel) (by decide +kernel)
set_option maxRecDepth 20000 in
theorem gL_law_X10_noon : GoodIn wsL_law (wsV RL 55 RX10 yX10_noon wsX10_noon) := goodIn_app (goodIn_of _ (by decide +kernel)) ggL_law_X10_noon
set_option maxRecDepth 20000 in
theorem ggL_law_X9_mend : GoodIn wsL_law wsX9_mend := goodIn_r _ [619, 24, 28, 467, 468, 469, 23, 470, 226, 530, 531, 532, 27, 533, 534, 87, 259, 535, 232, 84, 233, 536, 537, 538, 539, 540, 541, 542, 543, 68, 69, 544, 545, 546, 547, 70, 71, 72, 73, 225, 548, 549, 550, 67, 551, 77, 552, 234, 235, 236, 237, 620, 621, 622, 623, 959, 960, 961, 962, 963, 964, 965, 966, 967, 968, 1006, 1007, 1008, 1009, 1010, 1011, 1012, 1013, 1014, 1015, 1016, 1029, 1030, 1031, 1032, 1033] (by decide +kernel) (by decide +kernel)
set_option maxRecDepth 20000 in
theorem gL_law_X9_mend : GoodIn wsL_law (wsV RL 56 RX9 yX9_mend wsX9_mend) := goodIn_app (goodIn_of _ (by decide +kernel)) ggL_law_X9_mend
set_option maxRecDepth 20000 in
theorem ggL_law_X10_mend : GoodIn wsL_law wsX10_mend := goodIn_r _ [627, 275, 328, 329, 5, 330, 570, 571, 572, 573, 309, 277, 312, 313, 314, 969, 970, 971, 972, 973, 974, 975, 976, 977, 978, 979, 980, 981, 982, 983, 984, 985, 986, 987, 988, 989, 990, 991, 992, 993] (by decide +kernel) (by decide +kernel)
set_option maxRecDepth 20000 in
theorem gL_law_X10_mend : GoodIn wsL_law (wsV RL 59 RX10 yX10_mend wsX10_mend) := goodIn_app (goodIn_of _ (by decide +kernel)) ggL_law_X10_mend
