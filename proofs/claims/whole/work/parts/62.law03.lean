set_option maxRecDepth 20000 in
theorem ggL_law_X11_part : GoodIn wsY_law wsX11_part := goodIn_r _ [495, 22, 496, 497, 498, 21, 499, 75, 76, 901, 902, 903, 904, 905, 906, 907, 908, 909, 910, 911, 912, 913, 914, 915, 916, 917, 986, 987] rfl (by decide +kernel)
set_option maxRecDepth 20000 in
theorem gL_law_X11_part : GoodIn wsY_law (wsV RL 54 RX11 yX11_part wsX11_part) := goodIn_app (goodIn_of _ (by decide +kernel)) ggL_law_X11_part
set_option maxRecDepth 20000 in
theorem ggL_law_X14_part : GoodIn wsY_law wsX14_part := goodIn_r _ [503, 194, 488, 150, 918, 919, 920, 921, 922, 923, 924, 925, 926, 927, 928, 929, 930, 931, 932, 933, 934, 935, 936, 937, 938, 939, 940, 941, 942, 943, 944, 945, 946, 947, 948, 949, 950, 951, 952, 953, 954, 955, 956, 957, 958, 959, 960, 961, 962, 963, 964, 965, 966, 967, 968, 969, 970, 971, 972] rfl (by decide +kernel)
set_option maxRecDepth 20000 in
theorem gL_law_X14_part : GoodIn wsY_law (wsV RL 57 RX14 yX14_part wsX14_part) := goodIn_app (goodIn_of _ (by decide +kernel)) ggL_law_X14_part
set_option maxRecDepth 20000 in
theorem ggL_law_X11_joined : GoodIn wsY_law wsX11_joined := goodIn_r _ [507, 48, 31, 200, 201, 202, 2, 203, 54, 508, 509, 510, 30, 511, 88, 512, 513, 514, 515, 516, 91, 517, 349, 350, 47, 351, 131, 518, 450, 451, 452, 130, 348, 519, 344, 345, 346, 128, 347, 474, 475, 520, 477, 478, 21, 479, 75, 356, 357, 358, 359, 901, 902, 903, 904, 905, 906, 907, 908, 909, 910, 911, 912, 913, 914, 915, 916, 917, 1019, 1020, 1021, 1022, 989, 990, 991, 992, 986, 987] rfl (by decide +kernel)
set_option maxRecDepth 20000 in
theorem gL_law_X11_joined : GoodIn wsY_law (wsV RL 58 RX11 yX11_joined wsX11_joined) := goodIn_app (goodIn_of _ (by decide +kernel)) ggL_law_X11_joined
set_option maxRecDepth 20000 in
theorem ggL_law_X14_joined : GoodIn wsY_law wsX14_joined := goodIn_r _ [524, 194, 368, 525, 526, 527, 5, 528, 151, 140, 150, 419, 420, 421, 422, 367, 136, 369, 370, 371, 372, 918, 919, 920, 921, 922, 923, 924, 925, 926, 927, 928, 929, 930, 931, 932, 933, 934, 935, 936, 937, 938, 939, 940, 941, 942, 943, 944, 945, 946, 947, 948, 949, 950, 951, 952, 953, 954, 955, 956, 957, 958, 959, 960, 961, 962, 963, 964, 965, 966, 967, 968, 969, 970, 971, 972, 1023, 1024, 1025, 1026, 1027, 1028, 1029, 1030, 1031] rfl (by decide +kernel)
set_option maxRecDepth 20000 in
theorem gL_law_X14_joined : GoodIn wsY_law (wsV RL 61 RX14 yX14_joined wsX14_joined) := goodIn_app (goodIn_of _ (by decide +kernel)) ggL_law_X14_joined
set_option maxRecDepth 20000 in
theorem ggL_law_X11_run : GoodIn wsY_law wsX11_run := goodIn_r _ [532, 43, 48, 52, 533, 534, 535, 2, 536, 200, 201, 202, 203, 54, 537, 538, 539, 540, 26, 31, 35, 39, 27, 541, 542, 543, 42, 544, 114, 115, 119, 120, 116, 545, 546, 547, 548, 109, 111, 112, 117, 118, 121, 122, 123, 549, 550, 551, 552, 553, 554, 555, 556, 108, 557, 558, 559, 560, 30, 561, 89, 90, 562, 509, 510, 511, 88, 512, 513, 514, 515, 516, 91, 517, 349, 350, 47, 351, 131, 518, 450, 451, 452, 130, 348, 519, 344, 345, 346, 128, 347, 474, 475, 520, 477, 478, 21, 479, 75, 563, 564, 565, 34, 566, 94, 567, 568, 25, 569, 570, 571, 38, 572, 98, 99, 100, 101, 102, 103, 104, 573, 574, 575, 576, 577, 578, 579, 580, 581, 582, 583, 584, 585, 586, 213, 210, 214, 587, 588, 589, 446, 447, 448, 129, 590, 591, 592, 593, 594, 595, 596, 597, 598, 599, 600, 601, 602, 603, 604, 605, 606, 607, 608, 609, 610, 611, 612, 613, 614, 615, 616, 617, 110, 618, 619, 620, 621, 622, 623, 624, 625, 626, 627, 628, 629, 630, 631, 632, 633, 634, 80, 635, 636, 637, 638, 639, 640, 641, 642, 643, 644, 645, 97, 646, 647, 648, 649, 650, 651, 652, 653, 654, 655, 656, 657, 658, 659, 660, 661, 662, 663, 664, 665, 666, 667, 668, 669, 670, 671, 672, 673, 471, 472, 674, 675, 676, 677, 124, 113, 678, 679, 680, 681, 82, 682, 683, 684, 685, 686, 687, 688, 356, 357, 358, 359, 901, 902, 903, 904, 905, 906, 907, 908, 909, 910, 911, 912, 913, 914, 915, 916, 917, 1002, 1003, 1004, 1005, 1006, 1007, 1008, 1009, 1010, 1011, 1012, 1013, 1014, 1015, 1016, 1017, 1018, 1019, 1020, 1021, 1022, 989, 990, 991, 992, 986, 987, 993, 994, 995, 996, 997, 998, 999, 1000, 1001, 988] rfl (by decide +kernel)
set_option maxRecDepth 20000 in
theorem gL_law_X11_run : GoodIn wsY_law (wsV RL 62 RX11 yX11_run wsX11_run) := goodIn_app (goodIn_of _ (by decide +kernel)) ggL_law_X11_run
set_option maxRecDepth 20000 in
theorem ggL_law_X14_run : GoodIn wsY_law wsX14_run := goodIn_r _ [692, 194, 693, 140, 694, 695, 696, 697, 698, 699, 700, 701, 702, 703, 704, 705, 706, 161, 153, 162, 154, 163, 155, 164, 165, 152, 707, 166, 157, 708, 709, 710, 711, 5, 712, 368, 489, 490, 491, 369, 370, 371, 372, 367, 136, 713, 714, 715, 716, 465, 717, 213, 210, 214, 718, 719, 720, 721, 722, 723, 724, 725, 726, 727, 728, 729, 730, 731, 151, 732, 733, 734, 735, 156, 160, 158, 159, 736, 737, 738, 739, 740, 741, 742, 743, 744, 745, 525, 526, 527, 528, 150, 419, 420, 421, 422, 918, 919, 920, 921, 922, 923, 924, 925, 926, 927, 928, 929, 930, 931, 932, 933, 934, 935, 936, 937, 938, 939, 940, 941, 942, 943, 944, 945, 946, 947, 948, 949, 950, 951, 952, 953, 954, 955, 956, 957, 958, 959, 960, 961, 962, 963, 964, 965, 966, 967, 968, 969, 970, 971, 972, 1023, 1024, 1025, 1026, 1027, 1028, 1029, 1030, 1031] rfl (by decide +kernel)
set_option maxRecDepth 20000 in
theorem gL_law_X14_run : GoodIn wsY_law (wsV RL 65 RX14 yX14_run wsX14_run) := goodIn_app (goodIn_of _ (by decide +kernel)) ggL_law_X14_run
set_option maxRecDepth 20000 in
theorem ggL_law_X11_told : GoodIn wsY_law wsX11_told := goodIn_r _ [749, 43, 200, 201, 202, 2, 203, 54, 356, 357, 358, 359, 901, 902, 903, 904, 905, 906, 907, 908, 909, 910, 911, 912, 913, 914, 915, 916, 917, 1002, 1003, 1004, 1005, 1006, 1007, 1008, 1009, 1010, 1011, 1012, 1013, 1014, 1015, 1016, 1017, 1018] rfl (by decide +kernel)
set_option maxRecDepth 20000 in
theorem gL_law_X11_told : GoodIn wsY_law (wsV RL 66 RX11 yX11_told wsX11_told) := goodIn_app (goodIn_of _ (by decide +kernel)) ggL_law_X11_told
set_option maxRecDepth 20000 in
theorem ggL_law_X14_told : GoodIn wsY_law wsX14_told := goodIn_r _ [753, 194, 693, 698, 696, 700, 702, 704, 706, 369, 370, 371, 5, 372, 367, 136, 419, 420, 421, 422, 918, 919, 920, 921, 922, 923, 924, 925, 926, 927, 928, 929, 930, 931, 932, 933, 934, 935, 936, 937, 938, 939, 940, 941, 942, 943, 944, 945, 946, 947, 948, 949, 950, 951, 952, 953, 954, 955, 956, 957, 958, 959, 960, 961, 962, 963, 964, 965, 966, 967, 968, 969, 970, 971, 972] rfl (by decide +kernel)
set_option maxRecDepth 20000 in
theorem gL_law_X14_told : GoodIn wsY_law (wsV RL 69 RX14 yX14_told wsX14_told) := goodIn_app (goodIn_of _ (by decide +kernel)) ggL_law_X14_told
set_option maxRecDepth 20000 in
theorem ggL_law_L_out : GoodIn wsY_law wsY_out := goodIn_ca (goodIn_r _ [757, 758, 759, 760, 761, 2, 762, 763, 764, 43, 901, 902, 903, 904, 905, 906, 907, 908, 909, 910, 911, 912, 913, 914, 915, 916, 917, 1002, 1003, 1004, 1005, 1006, 1007, 1008, 1009, 1010, 1011, 1012, 1013, 1014, 1015, 1016, 1017, 1018] rfl (by decide +kernel)) (goodIn_sub (fun _ h => List.mem_append_right _ h) (by decide +kernel))
set_option maxRecDepth 20000 in
theorem gL_law_L_out : GoodIn wsY_law (va_wsS RL 70 yL_out wsY_out) := goodIn_app (goodIn_of _ (by decide +kernel)) ggL_law_L_out
set_option maxRecDepth 20000 in
theorem ggL_law_X14_out : GoodIn wsY_law wsX14_out := goodIn_r _ [768, 693, 702, 769, 209, 210, 211, 194, 163, 918, 919, 920, 921, 922, 923, 924, 925, 926, 927, 928, 929, 930, 931, 932, 933, 934, 935, 936, 937, 938, 939, 940, 941, 942, 943, 944, 945, 946, 947, 948, 949, 950, 951, 952, 953, 954, 955, 956, 957, 958, 959, 960, 961, 962, 963, 964, 965, 966, 967, 968, 969, 970, 971, 972] rfl (by decide +kernel)
set_option maxRecDepth 20000 in
theorem gL_law_X14_out : GoodIn wsY_law (wsV RL 75 RX14 yX14_out wsX14_out) := goodIn_app (goodIn_of _ (by decide +kernel)) ggL_law_X14_out
set_option maxRecDepth 20000 in
theorem ggL_law_X14_thrown : GoodIn wsY_law wsX14_thrown := goodIn_r _ [773, 194, 918, 919, 920, 921, 922, 923, 924, 925, 926, 927, 928, 929, 930, 931, 932, 933, 934, 935, 936, 937, 938, 939, 940, 941, 942, 943, 944, 945, 946, 947, 948, 949, 950, 951, 952, 953, 954, 955, 956, 957, 958, 959, 960, 961, 962, 963, 964, 965, 966, 967, 968, 969, 970, 971, 972] rfl (by decide +kernel)
set_option maxRecDepth 20000 in
theorem gL_law_X14_thrown : GoodIn wsY_law (wsV RL 76 RX14 yX14_thrown wsX14_thrown) := goodIn_app (goodIn_of _ (by decide +kernel)) ggL_law_X14_thrown
set_option maxRecDepth 20000 in
theorem ggL_law_L_pile : GoodIn wsY_law wsY_pile := goodIn_ca (goodIn_r _ [776, 758, 777, 778, 779, 2, 780, 763, 764, 43, 901, 902, 903, 904, 905, 906, 907, 908, 909, 910, 911, 912, 913, 914, 915, 916, 917, 1002, 1003, 1004, 1005, 1006, 1007, 1008, 1009, 1010, 1011, 1012, 1013, 1014, 1015, 1016, 1017, 1018] rfl (by decide +kernel)) (goodIn_sub (fun _ h => List.mem_append_right _ h) (by decide +kernel))
set_option maxRecDepth 20000 in
theorem gL_law_L_pile : GoodIn wsY_law (va_wsS RL 79 yL_pile wsY_pile) := goodIn_app (goodIn_of _ (by decide +kernel)) ggL_law_L_pile
set_option maxRecDepth 20000 in
theorem ggL_law_X14_pile : GoodIn wsY_law wsX14_pile := goodIn_r _ [784, 693, 700, 194, 161, 918, 919, 920, 921, 922, 923, 924, 925, 926, 927, 928, 929, 930, 931, 932, 933, 934, 935, 936, 937, 938, 939, 940, 941, 942, 943, 944, 945, 946, 947, 948, 949, 950, 951, 952, 953, 954, 955, 956, 957, 958, 959, 960, 961, 962, 963, 964, 965, 966, 967, 968, 969, 970, 971, 972] rfl (by decide +kernel)
