set_option maxRecDepth 20000 in
theorem ggL_law_X7_then : GoodIn wsL_law wsX7_then := goodIn_r _ [658, 29, 445, 107, 108, 2, 109, 631, 632, 633, 634, 16, 385, 386, 387, 15, 388, 119, 142, 248, 249, 49, 50, 389, 390, 391, 392, 51, 52, 53, 54, 55, 56, 502, 503, 504, 505, 506, 507, 508, 509, 510, 511, 512, 513, 451, 166, 167, 168, 456, 170, 171, 172, 514, 515, 516, 517, 518, 324, 325, 326, 519, 328, 329, 520, 521, 522, 523, 524, 525, 526, 527, 528, 447, 448, 449, 450, 452, 453, 454, 455, 998, 999, 1000, 1001, 1002, 1003, 1004, 1005, 1006, 1007, 1008, 1009, 1025, 1026, 1027, 1028, 1029, 1030, 1031, 1032, 1033, 1034, 1035, 1036] (by decide +kernel) (by decide +kernel)
set_option maxRecDepth 20000 in
theorem gL_law_X7_then : GoodIn wsL_law (wsV RL 81 RX7 yX7_then wsX7_then) := goodIn_app (goodIn_of _ (by decide +kernel)) ggL_law_X7_then
set_option maxRecDepth 20000 in
theorem ggL_law_X8_then : GoodIn wsL_law wsX8_then := goodIn_r _ [662, 124, 663, 91, 126, 127, 5, 128, 639, 640, 641, 642, 436, 437, 438, 439, 643, 644, 645, 646, 538, 539, 540, 541, 542, 543, 544, 545, 546, 547, 548, 189, 190, 191, 192, 185, 186, 187, 188, 549, 550, 551, 552, 553, 554, 555, 556, 557, 558, 559, 560, 561, 562, 563, 564, 469, 470, 471, 472, 473, 474, 475, 476, 1010, 1011, 1012, 1013, 1014, 1015, 1016, 1017, 1018, 1019, 1020, 1021, 1022, 1023, 1024] (by decide +kernel) (by decide +kernel)
set_option maxRecDepth 20000 in
theorem gL_law_X8_then : GoodIn wsL_law (wsV RL 84 RX8 yX8_then wsX8_then) := goodIn_app (goodIn_of _ (by decide +kernel)) ggL_law_X8_then
set_option maxRecDepth 20000 in
theorem ggL_law_X7_gone : GoodIn wsL_law wsX7_gone := goodIn_r _ [667, 29, 16, 161, 162, 163, 2, 164, 106, 385, 386, 387, 15, 388, 119, 142, 248, 249, 49, 50, 389, 390, 391, 392, 51, 52, 53, 54, 55, 56, 165, 166, 167, 168, 502, 503, 504, 505, 506, 507, 508, 509, 510, 511, 512, 513, 451, 456, 170, 171, 172, 514, 515, 516, 517, 518, 324, 325, 326, 519, 328, 329, 520, 521, 522, 523, 524, 525, 526, 527, 528, 998, 999, 1000, 1001, 1002, 1003, 1004, 1005, 1006, 1007, 1008, 1009, 1025, 1026, 1027, 1028, 1029, 1030, 1031, 1032, 1033, 1034, 1035, 1036] (by decide +kernel) (by decide +kernel)
set_option maxRecDepth 20000 in
theorem gL_law_X7_gone : GoodIn wsL_law (wsV RL 85 RX7 yX7_gone wsX7_gone) := goodIn_app (goodIn_of _ (by decide +kernel)) ggL_law_X7_gone
set_option maxRecDepth 20000 in
theorem ggL_law_X8_gone : GoodIn wsL_law wsX8_gone := goodIn_r _ [671, 181, 182, 183, 5, 184, 91, 126, 127, 128, 639, 640, 641, 642, 436, 437, 438, 439, 185, 186, 187, 188, 538, 539, 540, 541, 542, 543, 544, 545, 546, 547, 548, 189, 190, 191, 192, 549, 550, 551, 552, 553, 554, 555, 556, 557, 558, 559, 560, 561, 562, 563, 564, 1010, 1011, 1012, 1013, 1014, 1015, 1016, 1017, 1018, 1019, 1020, 1021, 1022, 1023, 1024] (by decide +kernel) (by decide +kernel)
set_option maxRecDepth 20000 in
theorem gL_law_X8_gone : GoodIn wsL_law (wsV RL 88 RX8 yX8_gone wsX8_gone) := goodIn_app (goodIn_of _ (by decide +kernel)) ggL_law_X8_gone
set_option maxRecDepth 20000 in
theorem ggL_law_X7_needs : GoodIn wsL_law wsX7_needs := goodIn_r _ [675, 29, 16, 204, 205, 206, 2, 207, 137, 161, 162, 163, 164, 106, 385, 386, 387, 15, 388, 119, 142, 248, 249, 49, 50, 389, 390, 391, 392, 51, 52, 53, 54, 55, 56, 578, 579, 580, 581, 506, 507, 508, 509, 510, 511, 512, 513, 451, 166, 167, 168, 456, 170, 171, 172, 514, 515, 516, 517, 518, 324, 325, 326, 519, 328, 329, 520, 521, 522, 523, 524, 525, 526, 527, 528, 165, 998, 999, 1000, 1001, 1002, 1003, 1004, 1005, 1006, 1007, 1008, 1009, 1025, 1026, 1027, 1028, 1029, 1030, 1031, 1032, 1033, 1034, 1035, 1036] (by decide +kernel) (by decide +kernel)
set_option maxRecDepth 20000 in
theorem gL_law_X7_needs : GoodIn wsL_law (wsV RL 89 RX7 yX7_needs wsX7_needs) := goodIn_app (goodIn_of _ (by decide +kernel)) ggL_law_X7_needs
set_option maxRecDepth 20000 in
theorem ggL_law_X8_needs : GoodIn wsL_law wsX8_needs := goodIn_r _ [679, 212, 213, 214, 5, 215, 91, 126, 127, 128, 181, 182, 183, 184, 639, 640, 641, 642, 436, 437, 438, 439, 545, 546, 547, 548, 189, 190, 191, 192, 185, 186, 187, 188, 549, 550, 551, 552, 553, 554, 555, 556, 557, 558, 559, 560, 561, 562, 563, 564, 1010, 1011, 1012, 1013, 1014, 1015, 1016, 1017, 1018, 1019, 1020, 1021, 1022, 1023, 1024] (by decide +kernel) (by decide +kernel)
set_option maxRecDepth 20000 in
theorem gL_law_X8_needs : GoodIn wsL_law (wsV RL 92 RX8 yX8_needs wsX8_needs) := goodIn_app (goodIn_of _ (by decide +kernel)) ggL_law_X8_needs
set_option maxRecDepth 20000 in
theorem ggL_law_X7_sends : GoodIn wsL_law wsX7_sends := goodIn_r _ [683, 16, 106, 137, 33, 29, 684, 685, 107, 108, 2, 109, 686, 687, 688, 32, 689, 690, 691, 70, 71, 692, 693, 694, 695, 696, 697, 386, 387, 15, 388, 119, 142, 248, 249, 49, 50, 389, 390, 391, 392, 51, 52, 53, 54, 55, 56, 698, 699, 700, 701, 506, 507, 508, 509, 510, 511, 512, 513, 451, 166, 167, 168, 456, 170, 171, 172, 514, 515, 516, 517, 518, 324, 325, 326, 519, 328, 329, 520, 521, 522, 523, 524, 525, 526, 527, 528, 702, 703, 704, 705, 706, 72, 707, 708, 709, 710, 73, 711, 998, 999, 1000, 1001, 1002, 1003, 1004, 1005, 1006, 1007, 1008, 1009, 1025, 1026, 1027, 1028, 1029, 1030, 1031, 1032, 1033, 1034, 1035, 1036, 1044, 1045, 1046, 1047, 1048, 1049] (by decide +kernel) (by decide +kernel)
set_option maxRecDepth 20000 in
theorem gL_law_X7_sends : GoodIn wsL_law (wsV RL 93 RX7 yX7_sends wsX7_sends) := goodIn_app (goodIn_of _ (by decide +kernel)) ggL_law_X7_sends
set_option maxRecDepth 20000 in
theorem ggL_law_X8_sends : GoodIn wsL_law wsX8_sends := goodIn_r _ [715, 716, 91, 96, 126, 127, 5, 128, 639, 640, 641, 642, 436, 437, 438, 439, 643, 644, 645, 646, 538, 539, 540, 541, 542, 543, 544, 545, 546, 547, 548, 189, 190, 191, 192, 185, 186, 187, 188, 549, 550, 551, 552, 553, 554, 555, 556, 557, 558, 559, 560, 561, 562, 563, 564, 469, 470, 471, 472, 717, 718, 719, 1010, 1011, 1012, 1013, 1014, 1015, 1016, 1017, 1018, 1019, 1020, 1021, 1022, 1023, 1024] (by decide +kernel) (by decide +kernel)
set_option maxRecDepth 20000 in
theorem gL_law_X8_sends : GoodIn wsL_law (wsV RL 96 RX8 yX8_sends wsX8_sends) := goodIn_app (goodIn_of _ (by decide +kernel)) ggL_law_X8_sends
set_option maxRecDepth 20000 in
theorem ggL_law_X7_round : GoodIn wsL_law wsX7_round := goodIn_r _ [723, 16, 37, 29, 724, 725, 204, 205, 206, 2, 207, 137, 726, 727, 728, 15, 729, 119, 510, 511, 512, 513, 451, 166, 167, 168, 50, 52, 456, 170, 171, 172, 53, 730, 731, 732, 36, 733, 734, 735, 736, 386, 387, 388, 142, 248, 249, 49, 389, 390, 391, 392, 51, 54, 55, 56, 737, 738, 448, 449, 450, 739, 740, 741, 742, 743, 744, 745, 746, 747, 748, 749, 750, 751, 77, 752, 753, 754, 755, 78, 756, 757, 758, 759, 760, 761, 762, 579, 580, 581, 506, 507, 508, 509, 514, 515, 516, 517, 518, 324, 325, 326, 519, 328, 329, 520, 521, 522, 523, 524, 525, 526, 527, 528, 763, 998, 999, 1000, 1001, 1002, 1003, 1004, 1005, 1006, 1007, 1008, 1009, 1050, 1051, 1052, 1053, 1025, 1026, 1027, 1028, 1029, 1030, 1031, 1032, 1033, 1034, 1035, 1036] (by decide +kernel) (by decide +kernel)
set_option maxRecDepth 20000 in
theorem gL_law_X7_round : GoodIn wsL_law (wsV RL 97 RX7 yX7_round wsX7_round) := goodIn_app (goodIn_of _ (by decide +kernel)) ggL_law_X7_round
set_option maxRecDepth 20000 in
theorem ggL_law_X8_round : GoodIn wsL_law wsX8_round := goodIn_r _ [767, 98, 212, 213, 214, 5, 215, 91, 126, 127, 128, 768, 769, 770, 771, 97, 772, 773, 774, 775, 185, 186, 187, 188, 189, 190, 191, 192, 717, 718, 719, 639, 640, 641, 642, 436, 437, 438, 439, 776, 777, 778, 779, 99, 780, 781, 782, 783, 469, 470, 471, 472, 542, 543, 544, 545, 546, 547, 548, 549, 550, 551, 552, 553, 554, 555, 556, 557, 558, 559, 560, 561, 562, 563, 564, 1010, 1011, 1012, 1013, 1014, 1015, 1016, 1017, 1018, 1019, 1020, 1021, 1022, 1023, 1024] (by decide +kernel) (by decide +kernel)
set_option maxRecDepth 20000 in
theorem gL_law_X8_round : GoodIn wsL_law (wsV RL 100 RX8 yX8_round wsX8_round) := goodIn_app (goodIn_of _ (by decide +kernel)) ggL_law_X8_round
set_option maxRecDepth 20000 in
theorem ggL_law_X7_pair : GoodIn wsL_law wsX7_pair := goodIn_r _ [787, 41, 16, 29, 788, 789, 790, 791, 161, 162, 163, 2, 164, 106, 107, 108, 109, 792, 793, 794, 40, 795, 796, 797, 798, 799, 800, 801, 802, 803, 386, 387, 15, 388, 119, 142, 248, 249, 49, 50, 389, 390, 391, 392, 51, 52, 53, 54, 55, 56, 804, 579, 580, 581, 506, 507, 508, 509, 510, 511, 512, 513, 451, 166, 167, 168, 456, 170, 171, 172, 514, 515, 516, 517, 518, 324, 325, 326, 519, 328, 329, 520, 521, 522, 523, 524, 525, 526, 527, 528, 805, 806, 807, 808, 809, 810, 811, 812, 813, 814, 815, 816, 998, 999, 1000, 1001, 1002, 1003, 1004, 1005, 1006, 1007, 1008, 1009, 1054, 1055, 1056, 1057, 1025, 1026, 1027, 1028, 1029, 1030, 1031, 1032, 1033, 1034, 1035, 1036] (by decide +kernel) (by decide +kernel)
set_option maxRecDepth 20000 in
theorem gL_law_X7_pair : GoodIn wsL_law (wsV RL 101 RX7 yX7_pair wsX7_pair) := goodIn_app (goodIn_of _ (by decide +kernel)) ggL_law_X7_pair
set_option maxRecDepth 20000 in
theorem ggL_law_X8_pair : GoodIn wsL_law wsX8_pair := goodIn_r _ [820, 663, 821, 91, 181, 182, 183, 5, 184, 126, 127, 128, 639, 640, 641, 642, 436, 437, 438, 439, 545, 546, 547, 548, 189, 190, 191, 192, 185, 186, 187, 188, 549, 550, 551, 552, 553, 554, 555, 556, 557, 558, 559, 560, 561, 562, 563, 564, 1010, 1011, 1012, 1013, 1014, 1015, 1016, 1017, 1018, 1019, 1020, 1021, 1022, 1023, 1024] (by decide +kernel) (by decide +kernel)
set_option maxRecDepth 20000 in
theorem gL_law_X8_pair : GoodIn wsL_law (wsV RL 104 RX8 yX8_pair wsX8_pair) := goodIn_app (goodIn_of _ (by decide +kernel)) ggL_law_X8_pair
set_option maxRecDepth 20000 in
theorem ggL_law_X7_small : GoodIn wsL_law wsX7_small := goodIn_r _ [825, 29, 16, 202, 204, 205, 206, 2, 207, 137, 161, 162, 163, 164, 106, 385, 386, 387, 15, 388, 119, 142, 248, 249, 49, 50, 389, 390, 391, 392, 51, 52, 53, 54, 55, 56, 578, 579, 580, 581, 506, 507, 508, 509, 510, 511, 512, 513, 451, 166, 167, 168, 456, 170, 171, 172, 514, 515, 516, 517, 518, 324, 325, 326, 519, 328, 329, 520, 521, 522, 523, 524, 525, 526, 527, 528, 165, 826, 759, 760, 761, 998, 999, 1000, 1001, 1002, 1003, 1004, 1005, 1006, 1007, 1008, 1009, 1025, 1026, 1027, 1028, 1029, 1030, 1031, 1032, 1033, 1034, 1035, 1036] (by decide +kernel) (by decide +kernel)
set_option maxRecDepth 20000 in
theorem gL_law_X7_small : GoodIn wsL_law (wsV RL 105 RX7 yX7_small wsX7_small) := goodIn_app (goodIn_of _ (by decide +kernel)) ggL_law_X7_small
set_option maxRecDepth 20000 in
theorem ggL_law_X8_small : GoodIn wsL_law wsX8_small := goodIn_r _ [830, 91, 212, 213, 214, 5, 215, 126, 127, 128, 181, 182, 183, 184, 639, 640, 641, 642, 436, 437, 438, 439, 545, 546, 547, 548, 189, 190, 191, 192, 185, 186, 187, 188, 549, 550, 551, 552, 553, 554, 555, 556, 557, 558, 559, 560, 561, 562, 563, 564, 1010, 1011, 1012, 1013, 1014, 1015, 1016, 1017, 1018, 1019, 1020, 1021, 1022, 1023, 1024] (by decide +kernel) (by decide +kernel)
set_option maxRecDepth 20000 in
theorem gL_law_X8_small : GoodIn wsL_law (wsV RL 108 RX8 yX8_small wsX8_small) := goodIn_app (goodIn_of _ (by decide +kernel)) ggL_law_X8_small
set_option maxRecDepth 20000 in
theorem ggL_law_X7_slip : GoodIn wsL_law wsX7_slip := goodIn_r _ [834, 16, 137, 835, 324, 325, 326, 107, 108, 2, 109, 836, 837, 838, 839, 29, 840, 841, 842, 15, 843, 142, 56, 385, 386, 387, 388, 119, 248, 249, 49, 50, 389, 390, 391, 392, 51, 52, 53, 54, 55, 502, 503, 504, 505, 506, 507, 508, 509, 510, 511, 512, 513, 451, 166, 167, 168, 456, 170, 171, 172, 514, 515, 516, 517, 518, 519, 328, 329, 520, 521, 522, 523, 524, 525, 526, 527, 528, 447, 448, 449, 450, 844, 740, 741, 742, 743, 744, 745, 845, 846, 847, 848, 849, 850, 998, 999, 1000, 1001, 1002, 1003, 1004, 1005, 1006, 1007, 1008, 1009, 1025, 1026, 1027, 1028, 1029, 1030, 1031, 1032, 1033, 1034, 1035, 1036] (by decide +kernel) (by decide +kernel)
set_option maxRecDepth 20000 in
theorem gL_law_X7_slip : GoodIn wsL_law (wsV RL 109 RX7 yX7_slip wsX7_slip) := goodIn_app (goodIn_of _ (by decide +kernel)) ggL_law_X7_slip
set_option maxRecDepth 20000 in
theorem ggL_law_X8_slip : GoodIn wsL_law wsX8_slip := goodIn_r _ [854, 855, 856, 91, 126, 127, 5, 128, 542, 543, 544, 639, 640, 641, 642, 436, 437, 438, 439, 538, 539, 540, 541, 545, 546, 547, 548, 189, 190, 191, 192, 185, 186, 187, 188, 549, 550, 551, 552, 553, 554, 555, 556, 557, 558, 559, 560, 561, 562, 563, 564, 469, 470, 471, 472, 717, 718, 719, 1010, 1011, 1012, 1013, 1014, 1015, 1016, 1017, 1018, 1019, 1020, 1021, 1022, 1023, 1024] (by decide +kernel) (by decide +kernel)
set_option maxRecDepth 20000 in
theorem gL_law_X8_slip : GoodIn wsL_law (wsV RL 112 RX8 yX8_slip wsX8_slip) := goodIn_app (goodIn_of _ (by decide +kernel)) ggL_law_X8_slip
set_option maxRecDepth 20000 in
theorem ggL_law_X7_image : GoodIn wsL_law wsX7_image := goodIn_r _ [860, 21, 16, 22, 20, 861, 385, 386, 387, 15, 388, 119, 142, 248, 249, 49, 50, 389, 390, 391, 392, 51, 52, 53, 54, 55, 56, 862, 863, 864, 19, 865, 493, 114, 62, 494, 998, 999, 1000, 1001, 1002, 1003, 1004, 1005, 1006, 1007, 1008, 1009, 1025, 1026, 1027, 1028, 1029, 1030, 1031, 1032, 1033, 1034, 1035, 1036, 1037, 1038, 1039] (by decide +kernel) (by decide +kernel)
set_option maxRecDepth 20000 in
theorem gL_law_X7_image : GoodIn wsL_law (wsV RL 113 RX7 yX7_image wsX7_image) := goodIn_app (goodIn_of _ (by decide +kernel)) ggL_law_X7_image
