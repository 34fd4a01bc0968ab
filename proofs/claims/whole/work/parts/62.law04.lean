set_option maxRecDepth 20000 in
theorem gL_law_X14_pile : GoodIn wsY_law (wsV RL 81 RX14 yX14_pile wsX14_pile) := goodIn_app (goodIn_of _ (by decide +kernel)) ggL_law_X14_pile
set_option maxRecDepth 20000 in
theorem ggL_law_X11_cell : GoodIn wsY_law wsX11_cell := goodIn_r _ [788, 43, 789, 603, 604, 42, 605, 109, 901, 902, 903, 904, 905, 906, 907, 908, 909, 910, 911, 912, 913, 914, 915, 916, 917, 1002, 1003, 1004, 1005, 1006, 1007, 1008, 1009, 1010, 1011, 1012, 1013, 1014, 1015, 1016, 1017, 1018] rfl (by decide +kernel)
set_option maxRecDepth 20000 in
theorem gL_law_X11_cell : GoodIn wsY_law (wsV RL 82 RX11 yX11_cell wsX11_cell) := goodIn_app (goodIn_of _ (by decide +kernel)) ggL_law_X11_cell
set_option maxRecDepth 20000 in
theorem ggL_law_X14_cell : GoodIn wsY_law wsX14_cell := goodIn_r _ [793, 194, 162, 489, 490, 5, 491, 918, 919, 920, 921, 922, 923, 924, 925, 926, 927, 928, 929, 930, 931, 932, 933, 934, 935, 936, 937, 938, 939, 940, 941, 942, 943, 944, 945, 946, 947, 948, 949, 950, 951, 952, 953, 954, 955, 956, 957, 958, 959, 960, 961, 962, 963, 964, 965, 966, 967, 968, 969, 970, 971, 972] rfl (by decide +kernel)
set_option maxRecDepth 20000 in
theorem gL_law_X14_cell : GoodIn wsY_law (wsV RL 85 RX14 yX14_cell wsX14_cell) := goodIn_app (goodIn_of _ (by decide +kernel)) ggL_law_X14_cell
set_option maxRecDepth 20000 in
theorem ggL_law_X11_did : GoodIn wsY_law wsX11_did := goodIn_r _ [797, 43, 470, 471, 2, 472, 901, 902, 903, 904, 905, 906, 907, 908, 909, 910, 911, 912, 913, 914, 915, 916, 917, 1002, 1003, 1004, 1005, 1006, 1007, 1008, 1009, 1010, 1011, 1012, 1013, 1014, 1015, 1016, 1017, 1018] rfl (by decide +kernel)
set_option maxRecDepth 20000 in
theorem gL_law_X11_did : GoodIn wsY_law (wsV RL 86 RX11 yX11_did wsX11_did) := goodIn_app (goodIn_of _ (by decide +kernel)) ggL_law_X11_did
set_option maxRecDepth 20000 in
theorem ggL_law_X14_did : GoodIn wsY_law wsX14_did := goodIn_r _ [801, 194, 693, 164, 489, 490, 5, 491, 918, 919, 920, 921, 922, 923, 924, 925, 926, 927, 928, 929, 930, 931, 932, 933, 934, 935, 936, 937, 938, 939, 940, 941, 942, 943, 944, 945, 946, 947, 948, 949, 950, 951, 952, 953, 954, 955, 956, 957, 958, 959, 960, 961, 962, 963, 964, 965, 966, 967, 968, 969, 970, 971, 972] rfl (by decide +kernel)
set_option maxRecDepth 20000 in
theorem gL_law_X14_did : GoodIn wsY_law (wsV RL 89 RX14 yX14_did wsX14_did) := goodIn_app (goodIn_of _ (by decide +kernel)) ggL_law_X14_did
set_option maxRecDepth 20000 in
theorem ggL_law_X11_follows : GoodIn wsY_law wsX11_follows := goodIn_r _ [805, 43, 470, 471, 2, 472, 473, 474, 475, 901, 902, 903, 904, 905, 906, 907, 908, 909, 910, 911, 912, 913, 914, 915, 916, 917, 1002, 1003, 1004, 1005, 1006, 1007, 1008, 1009, 1010, 1011, 1012, 1013, 1014, 1015, 1016, 1017, 1018] rfl (by decide +kernel)
set_option maxRecDepth 20000 in
theorem gL_law_X11_follows : GoodIn wsY_law (wsV RL 90 RX11 yX11_follows wsX11_follows) := goodIn_app (goodIn_of _ (by decide +kernel)) ggL_law_X11_follows
set_option maxRecDepth 20000 in
theorem ggL_law_X14_follows : GoodIn wsY_law wsX14_follows := goodIn_r _ [809, 194, 693, 165, 489, 490, 5, 491, 918, 919, 920, 921, 922, 923, 924, 925, 926, 927, 928, 929, 930, 931, 932, 933, 934, 935, 936, 937, 938, 939, 940, 941, 942, 943, 944, 945, 946, 947, 948, 949, 950, 951, 952, 953, 954, 955, 956, 957, 958, 959, 960, 961, 962, 963, 964, 965, 966, 967, 968, 969, 970, 971, 972] rfl (by decide +kernel)
set_option maxRecDepth 20000 in
theorem gL_law_X14_follows : GoodIn wsY_law (wsV RL 93 RX14 yX14_follows wsX14_follows) := goodIn_app (goodIn_of _ (by decide +kernel)) ggL_law_X14_follows
set_option maxRecDepth 20000 in
theorem ggL_law_X11_most : GoodIn wsY_law wsX11_most := goodIn_r _ [813, 43, 200, 201, 202, 2, 203, 54, 814, 815, 816, 42, 817, 112, 818, 819, 820, 356, 357, 358, 359, 901, 902, 903, 904, 905, 906, 907, 908, 909, 910, 911, 912, 913, 914, 915, 916, 917, 1002, 1003, 1004, 1005, 1006, 1007, 1008, 1009, 1010, 1011, 1012, 1013, 1014, 1015, 1016, 1017, 1018] rfl (by decide +kernel)
set_option maxRecDepth 20000 in
theorem gL_law_X11_most : GoodIn wsY_law (wsV RL 94 RX11 yX11_most wsX11_most) := goodIn_app (goodIn_of _ (by decide +kernel)) ggL_law_X11_most
set_option maxRecDepth 20000 in
theorem ggL_law_X14_most : GoodIn wsY_law wsX14_most := goodIn_r _ [824, 194, 693, 165, 369, 370, 371, 5, 372, 367, 136, 419, 420, 421, 422, 918, 919, 920, 921, 922, 923, 924, 925, 926, 927, 928, 929, 930, 931, 932, 933, 934, 935, 936, 937, 938, 939, 940, 941, 942, 943, 944, 945, 946, 947, 948, 949, 950, 951, 952, 953, 954, 955, 956, 957, 958, 959, 960, 961, 962, 963, 964, 965, 966, 967, 968, 969, 970, 971, 972] rfl (by decide +kernel)
set_option maxRecDepth 20000 in
theorem gL_law_X14_most : GoodIn wsY_law (wsV RL 97 RX14 yX14_most wsX14_most) := goodIn_app (goodIn_of _ (by decide +kernel)) ggL_law_X14_most
set_option maxRecDepth 20000 in
theorem ggL_law_X11_traces : GoodIn wsY_law wsX11_traces := goodIn_r _ [828, 43, 200, 201, 202, 2, 203, 54, 356, 357, 358, 359, 901, 902, 903, 904, 905, 906, 907, 908, 909, 910, 911, 912, 913, 914, 915, 916, 917, 1002, 1003, 1004, 1005, 1006, 1007, 1008, 1009, 1010, 1011, 1012, 1013, 1014, 1015, 1016, 1017, 1018] rfl (by decide +kernel)
set_option maxRecDepth 20000 in
theorem gL_law_X11_traces : GoodIn wsY_law (wsV RL 98 RX11 yX11_traces wsX11_traces) := goodIn_app (goodIn_of _ (by decide +kernel)) ggL_law_X11_traces
set_option maxRecDepth 20000 in
theorem ggL_law_X14_traces : GoodIn wsY_law wsX14_traces := goodIn_r _ [832, 194, 693, 707, 419, 420, 421, 5, 422, 367, 136, 369, 370, 371, 372, 918, 919, 920, 921, 922, 923, 924, 925, 926, 927, 928, 929, 930, 931, 932, 933, 934, 935, 936, 937, 938, 939, 940, 941, 942, 943, 944, 945, 946, 947, 948, 949, 950, 951, 952, 953, 954, 955, 956, 957, 958, 959, 960, 961, 962, 963, 964, 965, 966, 967, 968, 969, 970, 971, 972] rfl (by decide +kernel)
set_option maxRecDepth 20000 in
theorem gL_law_X14_traces : GoodIn wsY_law (wsV RL 101 RX14 yX14_traces wsX14_traces) := goodIn_app (goodIn_of _ (by decide +kernel)) ggL_law_X14_traces
set_option maxRecDepth 20000 in
theorem ggL_law_X11_trace : GoodIn wsY_law wsX11_trace := goodIn_r _ [836, 43, 901, 902, 903, 904, 905, 906, 907, 908, 909, 910, 911, 912, 913, 914, 915, 916, 917, 1002, 1003, 1004, 1005, 1006, 1007, 1008, 1009, 1010, 1011, 1012, 1013, 1014, 1015, 1016, 1017, 1018] rfl (by decide +kernel)
set_option maxRecDepth 20000 in
theorem gL_law_X11_trace : GoodIn wsY_law (wsV RL 102 RX11 yX11_trace wsX11_trace) := goodIn_app (goodIn_of _ (by decide +kernel)) ggL_law_X11_trace
set_option maxRecDepth 20000 in
theorem ggL_law_X14_trace : GoodIn wsY_law wsX14_trace := goodIn_r _ [840, 194, 693, 694, 166, 918, 919, 920, 921, 922, 923, 924, 925, 926, 927, 928, 929, 930, 931, 932, 933, 934, 935, 936, 937, 938, 939, 940, 941, 942, 943, 944, 945, 946, 947, 948, 949, 950, 951, 952, 953, 954, 955, 956, 957, 958, 959, 960, 961, 962, 963, 964, 965, 966, 967, 968, 969, 970, 971, 972] rfl (by decide +kernel)
set_option maxRecDepth 20000 in
theorem gL_law_X14_trace : GoodIn wsY_law (wsV RL 105 RX14 yX14_trace wsX14_trace) := goodIn_app (goodIn_of _ (by decide +kernel)) ggL_law_X14_trace
