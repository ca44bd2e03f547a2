set_option maxRecDepth 20000 in
theorem ggL_law_X8_image : GoodIn wsL_law wsX8_image := goodIn_r _ [869, 870, 436, 437, 438, 5, 439, 91, 1010, 1011, 1012, 1013, 1014, 1015, 1016, 1017, 1018, 1019, 1020, 1021, 1022, 1023, 1024] (by decide +kernel) (by decide +kernel)
set_option maxRecDepth 20000 in
theorem gL_law_X8_image : GoodIn wsL_law (wsV RL 116 RX8 yX8_image wsX8_image) := goodIn_app (goodIn_of _ (by decide +kernel)) ggL_law_X8_image
set_option maxRecDepth 20000 in
theorem ggL_law_X7_restore : GoodIn wsL_law wsX7_restore := goodIn_r _ [874, 861, 16, 21, 20, 22, 385, 386, 387, 15, 388, 119, 142, 248, 249, 49, 50, 389, 390, 391, 392, 51, 52, 53, 54, 55, 56, 862, 863, 864, 19, 865, 493, 114, 62, 494, 998, 999, 1000, 1001, 1002, 1003, 1004, 1005, 1006, 1007, 1008, 1009, 1025, 1026, 1027, 1028, 1029, 1030, 1031, 1032, 1033, 1034, 1035, 1036, 1037, 1038, 1039] (by decide +kernel) (by decide +kernel)
set_option maxRecDepth 20000 in
theorem gL_law_X7_restore : GoodIn wsL_law (wsV RL 117 RX7 yX7_restore wsX7_restore) := goodIn_app (goodIn_of _ (by decide +kernel)) ggL_law_X7_restore
set_option maxRecDepth 20000 in
theorem ggL_law_X8_restore : GoodIn wsL_law wsX8_restore := goodIn_r _ [878, 870, 436, 437, 438, 5, 439, 91, 1010, 1011, 1012, 1013, 1014, 1015, 1016, 1017, 1018, 1019, 1020, 1021, 1022, 1023, 1024] (by decide +kernel) (by decide +kernel)
set_option maxRecDepth 20000 in
theorem gL_law_X8_restore : GoodIn wsL_law (wsV RL 120 RX8 yX8_restore wsX8_restore) := goodIn_app (goodIn_of _ (by decide +kernel)) ggL_law_X8_restore
set_option maxRecDepth 20000 in
theorem ggL_law_X7_worn : GoodIn wsL_law wsX7_worn := goodIn_r _ [882, 28, 16, 203, 204, 205, 206, 2, 207, 137, 883, 884, 885, 107, 108, 109, 886, 887, 888, 889, 890, 891, 892, 893, 894, 45, 895, 896, 897, 898, 899, 900, 29, 201, 385, 386, 387, 15, 388, 119, 142, 248, 249, 49, 50, 389, 390, 391, 392, 51, 52, 53, 54, 55, 56, 901, 902, 903, 904, 905, 202, 502, 503, 504, 505, 506, 507, 508, 509, 510, 511, 512, 513, 451, 166, 167, 168, 456, 170, 171, 172, 514, 515, 516, 517, 518, 324, 325, 326, 519, 328, 329, 520, 521, 522, 523, 524, 525, 526, 527, 528, 906, 907, 908, 909, 158, 998, 999, 1000, 1001, 1002, 1003, 1004, 1005, 1006, 1007, 1008, 1009, 1025, 1026, 1027, 1028, 1029, 1030, 1031, 1032, 1033, 1034, 1035, 1036, 1058, 1059, 1060, 1061] (by decide +kernel) (by decide +kernel)
set_option maxRecDepth 20000 in
theorem gL_law_X7_worn : GoodIn wsL_law (wsV RL 121 RX7 yX7_worn wsX7_worn) := goodIn_app (goodIn_of _ (by decide +kernel)) ggL_law_X7_worn
set_option maxRecDepth 20000 in
theorem ggL_law_X8_worn : GoodIn wsL_law wsX8_worn := goodIn_r _ [913, 914, 91, 93, 212, 213, 214, 5, 215, 126, 127, 128, 915, 916, 917, 918, 919, 920, 921, 922, 923, 924, 925, 94, 95, 639, 640, 641, 642, 436, 437, 438, 439, 538, 539, 540, 541, 542, 543, 544, 545, 546, 547, 548, 189, 190, 191, 192, 185, 186, 187, 188, 549, 550, 551, 552, 553, 554, 555, 556, 557, 558, 559, 560, 561, 562, 563, 564, 1010, 1011, 1012, 1013, 1014, 1015, 1016, 1017, 1018, 1019, 1020, 1021, 1022, 1023, 1024] (by decide +kernel) (by decide +kernel)
set_option maxRecDepth 20000 in
theorem gL_law_X8_worn : GoodIn wsL_law (wsV RL 125 RX8 yX8_worn wsX8_worn) := goodIn_app (goodIn_of _ (by decide +kernel)) ggL_law_X8_worn
set_option maxRecDepth 20000 in
theorem ggL_law_X7_swept : GoodIn wsL_law wsX7_swept := goodIn_r _ [929, 28, 905, 930, 107, 108, 2, 109, 883, 884, 885, 886, 887, 888, 889, 890, 891, 892, 893, 894, 45, 895, 896, 931, 932, 933, 934, 43, 935, 998, 999, 1000, 1001, 1002, 1003, 1004, 1005, 1006, 1007, 1008, 1009, 1058, 1059, 1060, 1061] (by decide +kernel) (by decide +kernel)
set_option maxRecDepth 20000 in
theorem gL_law_X7_swept : GoodIn wsL_law (wsV RL 126 RX7 yX7_swept wsX7_swept) := goodIn_app (goodIn_of _ (by decide +kernel)) ggL_law_X7_swept
set_option maxRecDepth 20000 in
theorem ggL_law_X8_swept : GoodIn wsL_law wsX8_swept := goodIn_r _ [939, 148, 940, 93, 125, 100, 941, 126, 127, 5, 128, 915, 916, 917, 918, 919, 920, 921, 922, 923, 924, 925, 94, 95, 1010, 1011, 1012, 1013, 1014, 1015, 1016, 1017, 1018, 1019, 1020, 1021, 1022, 1023, 1024] (by decide +kernel) (by decide +kernel)
set_option maxRecDepth 20000 in
theorem gL_law_X8_swept : GoodIn wsL_law (wsV RL 130 RX8 yX8_swept wsX8_swept) := goodIn_app (goodIn_of _ (by decide +kernel)) ggL_law_X8_swept
set_option maxRecDepth 20000 in
theorem ggL_law_X7_film : GoodIn wsL_law wsX7_film := goodIn_r _ [945, 29, 16, 28, 202, 204, 205, 206, 2, 207, 137, 107, 108, 109, 883, 884, 885, 886, 887, 888, 889, 890, 891, 892, 893, 894, 45, 895, 896, 385, 386, 387, 15, 388, 119, 142, 248, 249, 49, 50, 389, 390, 391, 392, 51, 52, 53, 54, 55, 56, 502, 503, 504, 505, 506, 507, 508, 509, 510, 511, 512, 513, 451, 166, 167, 168, 456, 170, 171, 172, 514, 515, 516, 517, 518, 324, 325, 326, 519, 328, 329, 520, 521, 522, 523, 524, 525, 526, 527, 528, 946, 947, 948, 949, 950, 86, 998, 999, 1000, 1001, 1002, 1003, 1004, 1005, 1006, 1007, 1008, 1009, 1025, 1026, 1027, 1028, 1029, 1030, 1031, 1032, 1033, 1034, 1035, 1036, 1058, 1059, 1060, 1061] (by decide +kernel) (by decide +kernel)
set_option maxRecDepth 20000 in
theorem gL_law_X7_film : GoodIn wsL_law (wsV RL 131 RX7 yX7_film wsX7_film) := goodIn_app (goodIn_of _ (by decide +kernel)) ggL_law_X7_film
set_option maxRecDepth 20000 in
theorem ggL_law_X8_film : GoodIn wsL_law wsX8_film := goodIn_r _ [954, 955, 93, 91, 212, 213, 214, 5, 215, 126, 127, 128, 915, 916, 917, 918, 919, 920, 921, 922, 923, 924, 925, 94, 95, 639, 640, 641, 642, 436, 437, 438, 439, 538, 539, 540, 541, 542, 543, 544, 545, 546, 547, 548, 189, 190, 191, 192, 185, 186, 187, 188, 549, 550, 551, 552, 553, 554, 555, 556, 557, 558, 559, 560, 561, 562, 563, 564, 1010, 1011, 1012, 1013, 1014, 1015, 1016, 1017, 1018, 1019, 1020, 1021, 1022, 1023, 1024] (by decide +kernel) (by decide +kernel)
set_option maxRecDepth 20000 in
theorem gL_law_X8_film : GoodIn wsL_law (wsV RL 134 RX8 yX8_film wsX8_film) := goodIn_app (goodIn_of _ (by decide +kernel)) ggL_law_X8_film
set_option maxRecDepth 20000 in
theorem ggL_law_X7_sheet : GoodIn wsL_law wsX7_sheet := goodIn_r _ [959, 28, 883, 884, 2, 885, 107, 108, 109, 960, 961, 962, 45, 963, 964, 950, 896, 86, 998, 999, 1000, 1001, 1002, 1003, 1004, 1005, 1006, 1007, 1008, 1009, 1058, 1059, 1060, 1061] (by decide +kernel) (by decide +kernel)
set_option maxRecDepth 20000 in
theorem gL_law_X7_sheet : GoodIn wsL_law (wsV RL 135 RX7 yX7_sheet wsX7_sheet) := goodIn_app (goodIn_of _ (by decide +kernel)) ggL_law_X7_sheet
set_option maxRecDepth 20000 in
theorem ggL_law_X8_sheet : GoodIn wsL_law wsX8_sheet := goodIn_r _ [968, 95, 94, 93, 915, 916, 5, 917, 918, 919, 920, 921, 126, 127, 128, 1010, 1011, 1012, 1013, 1014, 1015, 1016, 1017, 1018, 1019, 1020, 1021, 1022, 1023, 1024] (by decide +kernel) (by decide +kernel)
set_option maxRecDepth 20000 in
theorem gL_law_X8_sheet : GoodIn wsL_law (wsV RL 138 RX8 yX8_sheet wsX8_sheet) := goodIn_app (goodIn_of _ (by decide +kernel)) ggL_law_X8_sheet
set_option maxRecDepth 20000 in
theorem ggL_law_X7_drop : GoodIn wsL_law wsX7_drop := goodIn_r _ [972, 28, 890, 973, 107, 108, 2, 109, 998, 999, 1000, 1001, 1002, 1003, 1004, 1005, 1006, 1007, 1008, 1009, 1058, 1059, 1060, 1061] (by decide +kernel) (by decide +kernel)
set_option maxRecDepth 20000 in
theorem gL_law_X7_drop : GoodIn wsL_law (wsV RL 139 RX7 yX7_drop wsX7_drop) := goodIn_app (goodIn_of _ (by decide +kernel)) ggL_law_X7_drop
set_option maxRecDepth 20000 in
theorem ggL_law_X8_drop : GoodIn wsL_law wsX8_drop := goodIn_r _ [977, 94, 919, 920, 5, 921, 918, 126, 127, 128, 1010, 1011, 1012, 1013, 1014, 1015, 1016, 1017, 1018, 1019, 1020, 1021, 1022, 1023, 1024] (by decide +kernel) (by decide +kernel)
set_option maxRecDepth 20000 in
theorem gL_law_X8_drop : GoodIn wsL_law (wsV RL 142 RX8 yX8_drop wsX8_drop) := goodIn_app (goodIn_of _ (by decide +kernel)) ggL_law_X8_drop
set_option maxRecDepth 20000 in
theorem ggL_law_X7_item : GoodIn wsL_law wsX7_item := goodIn_r _ [981, 28, 883, 884, 2, 885, 107, 108, 109, 886, 887, 888, 889, 890, 891, 892, 893, 894, 45, 895, 896, 946, 947, 948, 949, 950, 86, 998, 999, 1000, 1001, 1002, 1003, 1004, 1005, 1006, 1007, 1008, 1009, 1058, 1059, 1060, 1061] (by decide +kernel) (by decide +kernel)
set_option maxRecDepth 20000 in
theorem gL_law_X7_item : GoodIn wsL_law (wsV RL 145 RX7 yX7_item wsX7_item) := goodIn_app (goodIn_of _ (by decide +kernel)) ggL_law_X7_item
set_option maxRecDepth 20000 in
theorem ggL_law_X8_item : GoodIn wsL_law wsX8_item := goodIn_r _ [985, 93, 915, 916, 5, 917, 918, 919, 920, 921, 126, 127, 128, 922, 923, 924, 925, 94, 95, 986, 987, 988, 1010, 1011, 1012, 1013, 1014, 1015, 1016, 1017, 1018, 1019, 1020, 1021, 1022, 1023, 1024] (by decide +kernel) (by decide +kernel)
set_option maxRecDepth 20000 in
theorem gL_law_X8_item : GoodIn wsL_law (wsV RL 149 RX8 yX8_item wsX8_item) := goodIn_app (goodIn_of _ (by decide +kernel)) ggL_law_X8_item
set_option maxRecDepth 20000 in
theorem ggL_law_X7_copy : GoodIn wsL_law wsX7_copy := goodIn_r _ [992, 28, 890, 891, 905, 993, 390, 391, 392, 107, 108, 2, 109, 892, 893, 894, 45, 895, 896, 998, 999, 1000, 1001, 1002, 1003, 1004, 1005, 1006, 1007, 1008, 1009, 1058, 1059, 1060, 1061] (by decide +kernel) (by decide +kernel)
set_option maxRecDepth 20000 in
theorem gL_law_X7_copy : GoodIn wsL_law (wsV RL 150 RX7 yX7_copy wsX7_copy) := goodIn_app (goodIn_of _ (by decide +kernel)) ggL_law_X7_copy
set_option maxRecDepth 20000 in
theorem ggL_law_X8_copy : GoodIn wsL_law wsX8_copy := goodIn_r _ [997, 94, 95, 101, 93, 919, 920, 5, 921, 918, 126, 127, 128, 922, 923, 924, 925, 1010, 1011, 1012, 1013, 1014, 1015, 1016, 1017, 1018, 1019, 1020, 1021, 1022, 1023, 1024] (by decide +kernel) (by decide +kernel)
set_option maxRecDepth 20000 in
theorem gL_law_X8_copy : GoodIn wsL_law (wsV RL 153 RX8 yX8_copy wsX8_copy) := goodIn_app (goodIn_of _ (by decide +kernel)) ggL_law_X8_copy
