set_option maxRecDepth 20000 in
theorem ggL_law_X8_days : GoodIn wsL_law wsX8_days := goodIn_r _ [532, 533, 91, 126, 127, 5, 128, 534, 535, 536, 537, 436, 437, 438, 439, 538, 539, 540, 541, 542, 543, 544, 545, 546, 547, 548, 189, 190, 191, 192, 185, 186, 187, 188, 549, 550, 551, 552, 553, 554, 555, 556, 557, 558, 559, 560, 561, 562, 563, 564, 469, 470, 471, 472, 1010, 1011, 1012, 1013, 1014, 1015, 1016, 1017, 1018, 1019, 1020, 1021, 1022, 1023, 1024] (by decide +kernel) (by decide +kernel)
set_option maxRecDepth 20000 in
theorem gL_law_X8_days : GoodIn wsL_law (wsV RL 48 RX8 yX8_days wsX8_days) := goodIn_app (goodIn_of _ (by decide +kernel)) ggL_law_X8_days
set_option maxRecDepth 20000 in
theorem ggL_law_X7_send : GoodIn wsL_law wsX7_send := goodIn_r _ [568, 16, 203, 20, 204, 205, 206, 2, 207, 137, 161, 162, 163, 164, 106, 489, 490, 491, 19, 492, 62, 493, 114, 494, 386, 387, 15, 388, 119, 142, 248, 249, 49, 50, 389, 390, 391, 392, 51, 52, 53, 54, 55, 56, 998, 999, 1000, 1001, 1002, 1003, 1004, 1005, 1006, 1007, 1008, 1009, 1025, 1026, 1027, 1028, 1029, 1030, 1031, 1032, 1033, 1034, 1035, 1036, 1037, 1038, 1039] (by decide +kernel) (by decide +kernel)
set_option maxRecDepth 20000 in
theorem gL_law_X7_send : GoodIn wsL_law (wsV RL 49 RX7 yX7_send wsX7_send) := goodIn_app (goodIn_of _ (by decide +kernel)) ggL_law_X7_send
set_option maxRecDepth 20000 in
theorem ggL_law_X8_send : GoodIn wsL_law wsX8_send := goodIn_r _ [572, 91, 212, 213, 214, 5, 215, 126, 127, 128, 181, 182, 183, 184, 534, 535, 536, 537, 436, 437, 438, 439, 1010, 1011, 1012, 1013, 1014, 1015, 1016, 1017, 1018, 1019, 1020, 1021, 1022, 1023, 1024] (by decide +kernel) (by decide +kernel)
set_option maxRecDepth 20000 in
theorem gL_law_X8_send : GoodIn wsL_law (wsV RL 52 RX8 yX8_send wsX8_send) := goodIn_app (goodIn_of _ (by decide +kernel)) ggL_law_X8_send
set_option maxRecDepth 20000 in
theorem ggL_law_X7_press : GoodIn wsL_law wsX7_press := goodIn_r _ [576, 16, 20, 204, 205, 206, 2, 207, 137, 161, 162, 163, 164, 106, 107, 108, 109, 577, 507, 508, 15, 509, 55, 510, 511, 512, 513, 451, 166, 167, 168, 50, 52, 456, 170, 171, 172, 53, 489, 490, 491, 19, 492, 62, 493, 114, 494, 386, 387, 388, 119, 142, 248, 249, 49, 389, 390, 391, 392, 51, 54, 56, 578, 579, 580, 581, 506, 514, 515, 516, 517, 518, 324, 325, 326, 519, 328, 329, 520, 521, 522, 523, 524, 525, 526, 527, 528, 998, 999, 1000, 1001, 1002, 1003, 1004, 1005, 1006, 1007, 1008, 1009, 1025, 1026, 1027, 1028, 1029, 1030, 1031, 1032, 1033, 1034, 1035, 1036, 1037, 1038, 1039] (by decide +kernel) (by decide +kernel)
set_option maxRecDepth 20000 in
theorem gL_law_X7_press : GoodIn wsL_law (wsV RL 53 RX7 yX7_press wsX7_press) := goodIn_app (goodIn_of _ (by decide +kernel)) ggL_law_X7_press
set_option maxRecDepth 20000 in
theorem ggL_law_X8_press : GoodIn wsL_law wsX8_press := goodIn_r _ [585, 124, 212, 213, 214, 5, 215, 91, 126, 127, 128, 181, 182, 183, 184, 545, 546, 547, 548, 189, 190, 191, 192, 185, 186, 187, 188, 534, 535, 536, 537, 436, 437, 438, 439, 549, 550, 551, 552, 553, 554, 555, 556, 557, 558, 559, 560, 561, 562, 563, 564, 1010, 1011, 1012, 1013, 1014, 1015, 1016, 1017, 1018, 1019, 1020, 1021, 1022, 1023, 1024] (by decide +kernel) (by decide +kernel)
set_option maxRecDepth 20000 in
theorem gL_law_X8_press : GoodIn wsL_law (wsV RL 56 RX8 yX8_press wsX8_press) := goodIn_app (goodIn_of _ (by decide +kernel)) ggL_law_X8_press
set_option maxRecDepth 20000 in
theorem ggL_law_X7_ink : GoodIn wsL_law wsX7_ink := goodIn_r _ [589, 16, 20, 157, 590, 328, 325, 329, 161, 162, 163, 2, 164, 106, 107, 108, 109, 169, 170, 171, 15, 172, 53, 489, 490, 491, 19, 492, 62, 493, 114, 494, 386, 387, 388, 119, 142, 248, 249, 49, 50, 389, 390, 391, 392, 51, 52, 54, 55, 56, 998, 999, 1000, 1001, 1002, 1003, 1004, 1005, 1006, 1007, 1008, 1009, 1025, 1026, 1027, 1028, 1029, 1030, 1031, 1032, 1033, 1034, 1035, 1036, 1037, 1038, 1039] (by decide +kernel) (by decide +kernel)
set_option maxRecDepth 20000 in
theorem gL_law_X7_ink : GoodIn wsL_law (wsV RL 57 RX7 yX7_ink wsX7_ink) := goodIn_app (goodIn_of _ (by decide +kernel)) ggL_law_X7_ink
set_option maxRecDepth 20000 in
theorem ggL_law_X8_ink : GoodIn wsL_law wsX8_ink := goodIn_r _ [594, 124, 91, 181, 182, 183, 5, 184, 126, 127, 128, 189, 190, 191, 192, 534, 535, 536, 537, 436, 437, 438, 439, 1010, 1011, 1012, 1013, 1014, 1015, 1016, 1017, 1018, 1019, 1020, 1021, 1022, 1023, 1024] (by decide +kernel) (by decide +kernel)
set_option maxRecDepth 20000 in
theorem gL_law_X8_ink : GoodIn wsL_law (wsV RL 60 RX8 yX8_ink wsX8_ink) := goodIn_app (goodIn_of _ (by decide +kernel)) ggL_law_X8_ink
set_option maxRecDepth 20000 in
theorem ggL_law_X7_drift : GoodIn wsL_law wsX7_drift := goodIn_r _ [598, 485, 486, 487, 2, 488, 16, 444, 20, 107, 108, 109, 489, 490, 491, 19, 492, 62, 493, 114, 494, 386, 387, 15, 388, 119, 142, 248, 249, 49, 50, 389, 390, 391, 392, 51, 52, 53, 54, 55, 56, 495, 496, 497, 498, 499, 500, 501, 502, 503, 504, 505, 506, 507, 508, 509, 510, 511, 512, 513, 451, 166, 167, 168, 456, 170, 171, 172, 514, 515, 516, 517, 518, 324, 325, 326, 519, 328, 329, 520, 521, 522, 523, 524, 525, 526, 527, 528, 447, 448, 449, 450, 998, 999, 1000, 1001, 1002, 1003, 1004, 1005, 1006, 1007, 1008, 1009, 1025, 1026, 1027, 1028, 1029, 1030, 1031, 1032, 1033, 1034, 1035, 1036, 1037, 1038, 1039] (by decide +kernel) (by decide +kernel)
set_option maxRecDepth 20000 in
theorem gL_law_X7_drift : GoodIn wsL_law (wsV RL 61 RX7 yX7_drift wsX7_drift) := goodIn_app (goodIn_of _ (by decide +kernel)) ggL_law_X7_drift
set_option maxRecDepth 20000 in
theorem ggL_law_X8_drift : GoodIn wsL_law wsX8_drift := goodIn_r _ [602, 533, 91, 603, 604, 605, 606, 126, 127, 5, 128, 534, 535, 536, 537, 436, 437, 438, 439, 538, 539, 540, 541, 542, 543, 544, 545, 546, 547, 548, 189, 190, 191, 192, 185, 186, 187, 188, 549, 550, 551, 552, 553, 554, 555, 556, 557, 558, 559, 560, 561, 562, 563, 564, 469, 470, 471, 472, 1010, 1011, 1012, 1013, 1014, 1015, 1016, 1017, 1018, 1019, 1020, 1021, 1022, 1023, 1024] (by decide +kernel) (by decide +kernel)
set_option maxRecDepth 20000 in
theorem gL_law_X8_drift : GoodIn wsL_law (wsV RL 64 RX8 yX8_drift wsX8_drift) := goodIn_app (goodIn_of _ (by decide +kernel)) ggL_law_X8_drift
set_option maxRecDepth 20000 in
theorem ggL_law_X7_undo : GoodIn wsL_law wsX7_undo := goodIn_r _ [610, 20, 446, 16, 611, 612, 613, 19, 614, 114, 62, 493, 494, 386, 387, 15, 388, 119, 142, 248, 249, 49, 50, 389, 390, 391, 392, 51, 52, 53, 54, 55, 56, 998, 999, 1000, 1001, 1002, 1003, 1004, 1005, 1006, 1007, 1008, 1009, 1037, 1038, 1039, 1025, 1026, 1027, 1028, 1029, 1030, 1031, 1032, 1033, 1034, 1035, 1036] (by decide +kernel) (by decide +kernel)
set_option maxRecDepth 20000 in
theorem gL_law_X7_undo : GoodIn wsL_law (wsV RL 65 RX7 yX7_undo wsX7_undo) := goodIn_app (goodIn_of _ (by decide +kernel)) ggL_law_X7_undo
set_option maxRecDepth 20000 in
theorem ggL_law_X8_undo : GoodIn wsL_law wsX8_undo := goodIn_r _ [618, 91, 436, 437, 438, 5, 439, 1010, 1011, 1012, 1013, 1014, 1015, 1016, 1017, 1018, 1019, 1020, 1021, 1022, 1023, 1024] (by decide +kernel) (by decide +kernel)
set_option maxRecDepth 20000 in
theorem gL_law_X8_undo : GoodIn wsL_law (wsV RL 68 RX8 yX8_undo wsX8_undo) := goodIn_app (goodIn_of _ (by decide +kernel)) ggL_law_X8_undo
set_option maxRecDepth 20000 in
theorem ggL_law_X7_seed : GoodIn wsL_law wsX7_seed := goodIn_r _ [622, 16, 237, 998, 999, 1000, 1001, 1002, 1003, 1004, 1005, 1006, 1007, 1008, 1009, 1025, 1026, 1027, 1028, 1029, 1030, 1031, 1032, 1033, 1034, 1035, 1036] (by decide +kernel) (by decide +kernel)
set_option maxRecDepth 20000 in
theorem gL_law_X7_seed : GoodIn wsL_law (wsV RL 69 RX7 yX7_seed wsX7_seed) := goodIn_app (goodIn_of _ (by decide +kernel)) ggL_law_X7_seed
set_option maxRecDepth 20000 in
theorem ggL_law_X8_seed : GoodIn wsL_law wsX8_seed := goodIn_r _ [626, 91, 1010, 1011, 1012, 1013, 1014, 1015, 1016, 1017, 1018, 1019, 1020, 1021, 1022, 1023, 1024] (by decide +kernel) (by decide +kernel)
set_option maxRecDepth 20000 in
theorem gL_law_X8_seed : GoodIn wsL_law (wsV RL 72 RX8 yX8_seed wsX8_seed) := goodIn_app (goodIn_of _ (by decide +kernel)) ggL_law_X8_seed
set_option maxRecDepth 20000 in
theorem ggL_law_X7_dark : GoodIn wsL_law wsX7_dark := goodIn_r _ [630, 29, 157, 161, 162, 163, 2, 164, 16, 106, 107, 108, 109, 631, 632, 633, 634, 385, 386, 387, 15, 388, 119, 142, 248, 249, 49, 50, 389, 390, 391, 392, 51, 52, 53, 54, 55, 56, 502, 503, 504, 505, 506, 507, 508, 509, 510, 511, 512, 513, 451, 166, 167, 168, 456, 170, 171, 172, 514, 515, 516, 517, 518, 324, 325, 326, 519, 328, 329, 520, 521, 522, 523, 524, 525, 526, 527, 528, 998, 999, 1000, 1001, 1002, 1003, 1004, 1005, 1006, 1007, 1008, 1009, 1025, 1026, 1027, 1028, 1029, 1030, 1031, 1032, 1033, 1034, 1035, 1036] (by decide +kernel) (by decide +kernel)
set_option maxRecDepth 20000 in
theorem gL_law_X7_dark : GoodIn wsL_law (wsV RL 73 RX7 yX7_dark wsX7_dark) := goodIn_app (goodIn_of _ (by decide +kernel)) ggL_law_X7_dark
set_option maxRecDepth 20000 in
theorem ggL_law_X8_dark : GoodIn wsL_law wsX8_dark := goodIn_r _ [638, 124, 91, 181, 182, 183, 5, 184, 126, 127, 128, 639, 640, 641, 642, 436, 437, 438, 439, 643, 644, 645, 646, 538, 539, 540, 541, 542, 543, 544, 545, 546, 547, 548, 189, 190, 191, 192, 185, 186, 187, 188, 549, 550, 551, 552, 553, 554, 555, 556, 557, 558, 559, 560, 561, 562, 563, 564, 1010, 1011, 1012, 1013, 1014, 1015, 1016, 1017, 1018, 1019, 1020, 1021, 1022, 1023, 1024] (by decide +kernel) (by decide +kernel)
set_option maxRecDepth 20000 in
theorem gL_law_X8_dark : GoodIn wsL_law (wsV RL 76 RX8 yX8_dark wsX8_dark) := goodIn_app (goodIn_of _ (by decide +kernel)) ggL_law_X8_dark
set_option maxRecDepth 20000 in
theorem ggL_law_X7_size : GoodIn wsL_law wsX7_size := goodIn_r _ [650, 29, 202, 204, 205, 206, 2, 207, 16, 137, 107, 108, 109, 631, 632, 633, 634, 385, 386, 387, 15, 388, 119, 142, 248, 249, 49, 50, 389, 390, 391, 392, 51, 52, 53, 54, 55, 56, 502, 503, 504, 505, 506, 507, 508, 509, 510, 511, 512, 513, 451, 166, 167, 168, 456, 170, 171, 172, 514, 515, 516, 517, 518, 324, 325, 326, 519, 328, 329, 520, 521, 522, 523, 524, 525, 526, 527, 528, 998, 999, 1000, 1001, 1002, 1003, 1004, 1005, 1006, 1007, 1008, 1009, 1025, 1026, 1027, 1028, 1029, 1030, 1031, 1032, 1033, 1034, 1035, 1036] (by decide +kernel) (by decide +kernel)
set_option maxRecDepth 20000 in
theorem gL_law_X7_size : GoodIn wsL_law (wsV RL 77 RX7 yX7_size wsX7_size) := goodIn_app (goodIn_of _ (by decide +kernel)) ggL_law_X7_size
set_option maxRecDepth 20000 in
theorem ggL_law_X8_size : GoodIn wsL_law wsX8_size := goodIn_r _ [654, 124, 91, 212, 213, 214, 5, 215, 126, 127, 128, 639, 640, 641, 642, 436, 437, 438, 439, 643, 644, 645, 646, 538, 539, 540, 541, 542, 543, 544, 545, 546, 547, 548, 189, 190, 191, 192, 185, 186, 187, 188, 549, 550, 551, 552, 553, 554, 555, 556, 557, 558, 559, 560, 561, 562, 563, 564, 1010, 1011, 1012, 1013, 1014, 1015, 1016, 1017, 1018, 1019, 1020, 1021, 1022, 1023, 1024] (by decide +kernel) (by decide +kernel)
set_option maxRecDepth 20000 in
theorem gL_law_X8_size : GoodIn wsL_law (wsV RL 80 RX8 yX8_size wsX8_size) := goodIn_app (goodIn_of _ (by decide +kernel)) ggL_law_X8_size
