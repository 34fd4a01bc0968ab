set_option maxRecDepth 20000 in
theorem gL_law_X14_feed : GoodIn wsY_law (wsV RL 26 RX14 yX14_feed wsX14_feed) := goodIn_app (goodIn_of _ (by decide +kernel)) ggL_law_X14_feed
set_option maxRecDepth 20000 in
theorem ggL_law_X11_program : GoodIn wsY_law wsX11_program := goodIn_r _ [199, 50, 18, 14, 49, 51, 48, 200, 201, 202, 2, 203, 54, 204, 205, 206, 17, 207, 208, 209, 210, 211, 212, 213, 214, 63, 58, 215, 216, 217, 218, 69, 70, 66, 64, 219, 220, 221, 47, 222, 131, 223, 224, 225, 226, 65, 227, 228, 229, 230, 231, 232, 233, 234, 235, 236, 237, 238, 239, 240, 241, 242, 243, 67, 68, 244, 245, 246, 247, 248, 249, 250, 251, 252, 253, 254, 255, 59, 60, 256, 257, 258, 259, 260, 261, 262, 263, 264, 265, 266, 267, 268, 269, 270, 271, 272, 273, 274, 275, 276, 277, 278, 279, 280, 281, 282, 283, 284, 285, 286, 287, 288, 289, 290, 291, 292, 293, 294, 295, 296, 297, 298, 299, 300, 301, 302, 303, 304, 305, 306, 307, 308, 309, 310, 311, 312, 313, 314, 315, 316, 317, 318, 319, 320, 321, 322, 323, 324, 325, 326, 327, 328, 329, 330, 61, 62, 331, 332, 333, 334, 335, 336, 337, 338, 128, 129, 130, 339, 340, 341, 342, 343, 344, 345, 346, 347, 348, 349, 350, 351, 352, 353, 354, 355, 356, 357, 358, 359, 901, 902, 903, 904, 905, 906, 907, 908, 909, 910, 911, 912, 913, 914, 915, 916, 917, 1019, 1020, 1021, 1022, 973, 974, 975, 976, 977, 978, 979, 980, 981, 982, 983, 984, 985] rfl (by decide +kernel)
set_option maxRecDepth 20000 in
theorem gL_law_X11_program : GoodIn wsY_law (wsV RL 27 RX11 yX11_program wsX11_program) := goodIn_app (goodIn_of _ (by decide +kernel)) ggL_law_X11_program
set_option maxRecDepth 20000 in
theorem ggL_law_X14_program : GoodIn wsY_law wsX14_program := goodIn_r _ [363, 194, 195, 364, 365, 366, 367, 136, 140, 141, 368, 369, 370, 371, 5, 372, 373, 374, 375, 376, 377, 378, 379, 380, 381, 382, 383, 384, 385, 386, 387, 388, 389, 390, 147, 391, 392, 393, 394, 395, 396, 397, 398, 399, 400, 401, 402, 403, 404, 405, 406, 407, 139, 408, 409, 177, 175, 410, 411, 412, 413, 149, 414, 415, 416, 417, 279, 280, 281, 282, 283, 284, 285, 286, 287, 288, 289, 418, 291, 292, 293, 294, 295, 296, 297, 298, 299, 300, 301, 302, 303, 304, 305, 306, 307, 308, 309, 310, 311, 312, 313, 314, 315, 316, 317, 318, 319, 320, 321, 322, 323, 324, 325, 326, 419, 420, 421, 422, 918, 919, 920, 921, 922, 923, 924, 925, 926, 927, 928, 929, 930, 931, 932, 933, 934, 935, 936, 937, 938, 939, 940, 941, 942, 943, 944, 945, 946, 947, 948, 949, 950, 951, 952, 953, 954, 955, 956, 957, 958, 959, 960, 961, 962, 963, 964, 965, 966, 967, 968, 969, 970, 971, 972, 1032, 1033, 1034, 1035, 1036, 1037, 1038, 1039, 1023, 1024, 1025, 1026, 1027, 1028, 1029, 1030, 1031] rfl (by decide +kernel)
set_option maxRecDepth 20000 in
theorem gL_law_X14_program : GoodIn wsY_law (wsV RL 30 RX14 yX14_program wsX14_program) := goodIn_app (goodIn_of _ (by decide +kernel)) ggL_law_X14_program
set_option maxRecDepth 20000 in
theorem ggL_law_X11_fault : GoodIn wsY_law wsX11_fault := goodIn_r _ [426, 51, 901, 902, 903, 904, 905, 906, 907, 908, 909, 910, 911, 912, 913, 914, 915, 916, 917] rfl (by decide +kernel)
set_option maxRecDepth 20000 in
theorem gL_law_X11_fault : GoodIn wsY_law (wsV RL 31 RX11 yX11_fault wsX11_fault) := goodIn_app (goodIn_of _ (by decide +kernel)) ggL_law_X11_fault
set_option maxRecDepth 20000 in
theorem ggL_law_X14_fault : GoodIn wsY_law wsX14_fault := goodIn_r _ [430, 194, 366, 918, 919, 920, 921, 922, 923, 924, 925, 926, 927, 928, 929, 930, 931, 932, 933, 934, 935, 936, 937, 938, 939, 940, 941, 942, 943, 944, 945, 946, 947, 948, 949, 950, 951, 952, 953, 954, 955, 956, 957, 958, 959, 960, 961, 962, 963, 964, 965, 966, 967, 968, 969, 970, 971, 972] rfl (by decide +kernel)
set_option maxRecDepth 20000 in
theorem gL_law_X14_fault : GoodIn wsY_law (wsV RL 35 RX14 yX14_fault wsX14_fault) := goodIn_app (goodIn_of _ (by decide +kernel)) ggL_law_X14_fault
set_option maxRecDepth 20000 in
theorem ggL_law_X11_where : GoodIn wsY_law wsX11_where := goodIn_r _ [434, 54, 18, 901, 902, 903, 904, 905, 906, 907, 908, 909, 910, 911, 912, 913, 914, 915, 916, 917, 973, 974, 975, 976, 977, 978, 979, 980, 981, 982, 983, 984, 985] rfl (by decide +kernel)
set_option maxRecDepth 20000 in
theorem gL_law_X11_where : GoodIn wsY_law (wsV RL 36 RX11 yX11_where wsX11_where) := goodIn_app (goodIn_of _ (by decide +kernel)) ggL_law_X11_where
set_option maxRecDepth 20000 in
theorem ggL_law_X14_where : GoodIn wsY_law wsX14_where := goodIn_r _ [438, 194, 136, 918, 919, 920, 921, 922, 923, 924, 925, 926, 927, 928, 929, 930, 931, 932, 933, 934, 935, 936, 937, 938, 939, 940, 941, 942, 943, 944, 945, 946, 947, 948, 949, 950, 951, 952, 953, 954, 955, 956, 957, 958, 959, 960, 961, 962, 963, 964, 965, 966, 967, 968, 969, 970, 971, 972] rfl (by decide +kernel)
set_option maxRecDepth 20000 in
theorem gL_law_X14_where : GoodIn wsY_law (wsV RL 39 RX14 yX14_where wsX14_where) := goodIn_app (goodIn_of _ (by decide +kernel)) ggL_law_X14_where
set_option maxRecDepth 20000 in
theorem ggL_law_X11_order : GoodIn wsY_law wsX11_order := goodIn_r _ [442, 48, 443, 444, 344, 345, 47, 346, 128, 347, 348, 349, 350, 351, 131, 445, 446, 447, 448, 129, 449, 450, 451, 452, 130, 901, 902, 903, 904, 905, 906, 907, 908, 909, 910, 911, 912, 913, 914, 915, 916, 917, 1019, 1020, 1021, 1022] rfl (by decide +kernel)
set_option maxRecDepth 20000 in
theorem gL_law_X11_order : GoodIn wsY_law (wsV RL 40 RX11 yX11_order wsX11_order) := goodIn_app (goodIn_of _ (by decide +kernel)) ggL_law_X11_order
set_option maxRecDepth 20000 in
theorem ggL_law_X14_order : GoodIn wsY_law wsX14_order := goodIn_r _ [456, 194, 368, 140, 918, 919, 920, 921, 922, 923, 924, 925, 926, 927, 928, 929, 930, 931, 932, 933, 934, 935, 936, 937, 938, 939, 940, 941, 942, 943, 944, 945, 946, 947, 948, 949, 950, 951, 952, 953, 954, 955, 956, 957, 958, 959, 960, 961, 962, 963, 964, 965, 966, 967, 968, 969, 970, 971, 972, 1023, 1024, 1025, 1026, 1027, 1028, 1029, 1030, 1031] rfl (by decide +kernel)
set_option maxRecDepth 20000 in
theorem gL_law_X14_order : GoodIn wsY_law (wsV RL 44 RX14 yX14_order wsX14_order) := goodIn_app (goodIn_of _ (by decide +kernel)) ggL_law_X14_order
set_option maxRecDepth 20000 in
theorem ggL_law_X11_input : GoodIn wsY_law wsX11_input := goodIn_r _ [460, 52, 901, 902, 903, 904, 905, 906, 907, 908, 909, 910, 911, 912, 913, 914, 915, 916, 917] rfl (by decide +kernel)
set_option maxRecDepth 20000 in
theorem gL_law_X11_input : GoodIn wsY_law (wsV RL 45 RX11 yX11_input wsX11_input) := goodIn_app (goodIn_of _ (by decide +kernel)) ggL_law_X11_input
set_option maxRecDepth 20000 in
theorem ggL_law_X14_input : GoodIn wsY_law wsX14_input := goodIn_r _ [464, 194, 465, 918, 919, 920, 921, 922, 923, 924, 925, 926, 927, 928, 929, 930, 931, 932, 933, 934, 935, 936, 937, 938, 939, 940, 941, 942, 943, 944, 945, 946, 947, 948, 949, 950, 951, 952, 953, 954, 955, 956, 957, 958, 959, 960, 961, 962, 963, 964, 965, 966, 967, 968, 969, 970, 971, 972] rfl (by decide +kernel)
set_option maxRecDepth 20000 in
theorem gL_law_X14_input : GoodIn wsY_law (wsV RL 49 RX14 yX14_input wsX14_input) := goodIn_app (goodIn_of _ (by decide +kernel)) ggL_law_X14_input
set_option maxRecDepth 20000 in
theorem ggL_law_X11_join : GoodIn wsY_law wsX11_join := goodIn_r _ [469, 22, 470, 471, 2, 472, 200, 201, 202, 203, 54, 473, 474, 475, 476, 477, 478, 21, 479, 75, 480, 481, 482, 483, 76, 356, 357, 358, 359, 901, 902, 903, 904, 905, 906, 907, 908, 909, 910, 911, 912, 913, 914, 915, 916, 917, 986, 987] rfl (by decide +kernel)
set_option maxRecDepth 20000 in
theorem gL_law_X11_join : GoodIn wsY_law (wsV RL 50 RX11 yX11_join wsX11_join) := goodIn_app (goodIn_of _ (by decide +kernel)) ggL_law_X11_join
set_option maxRecDepth 20000 in
theorem ggL_law_X14_join : GoodIn wsY_law wsX14_join := goodIn_r _ [487, 194, 488, 150, 489, 490, 5, 491, 369, 370, 371, 372, 367, 136, 419, 420, 421, 422, 918, 919, 920, 921, 922, 923, 924, 925, 926, 927, 928, 929, 930, 931, 932, 933, 934, 935, 936, 937, 938, 939, 940, 941, 942, 943, 944, 945, 946, 947, 948, 949, 950, 951, 952, 953, 954, 955, 956, 957, 958, 959, 960, 961, 962, 963, 964, 965, 966, 967, 968, 969, 970, 971, 972] rfl (by decide +kernel)
set_option maxRecDepth 20000 in
theorem gL_law_X14_join : GoodIn wsY_law (wsV RL 53 RX14 yX14_join wsX14_join) := goodIn_app (goodIn_of _ (by decide +kernel)) ggL_law_X14_join
