set_option maxRecDepth 20000 in
theorem ggL_law_X4_init : GoodIn wsL_law wsX4_init := goodIn_r _ [9, 10, 11, 12, 13, 14, 15, 16, 17, 18, 19, 20, 21, 22, 23, 24, 25, 26, 27, 28, 29, 30, 31, 32, 33, 34, 35, 36, 37, 38, 39, 40, 41, 42, 43, 44, 45, 46, 47, 48, 49, 50, 954, 955, 956, 957, 958, 959, 960, 961, 962, 963, 964, 965, 966, 967, 932, 933, 934, 935, 936, 937, 938, 968, 969, 970, 971, 972, 973, 974, 975, 976] (by decide +kernel) (by decide +kernel)
set_option maxRecDepth 20000 in
theorem gL_law_X4_init : GoodIn wsL_law (wsX4_init) := ggL_law_X4_init
set_option maxRecDepth 20000 in
theorem ggL_law_X5_init : GoodIn wsL_law wsX5_init := goodIn_r _ [53, 54, 11, 12, 27, 55, 56, 57, 58, 59, 60, 61, 49, 62, 939, 940, 941, 942, 943, 944, 945, 946, 947, 948, 949, 950, 951, 952, 953] (by decide +kernel) (by decide +kernel)
set_option maxRecDepth 20000 in
theorem gL_law_X5_init : GoodIn wsL_law (wsX5_init) := ggL_law_X5_init
set_option maxRecDepth 20000 in
theorem ggL_law_X4_iron : GoodIn wsL_law wsX4_iron := goodIn_r _ [66, 16, 67, 68, 69, 70, 71, 72, 2, 73, 28, 932, 933, 934, 935, 936, 937, 938, 954, 955, 956, 957, 958, 959, 960, 961, 962, 963, 964, 965, 966, 967] (by decide +kernel) (by decide +kernel)
set_option maxRecDepth 20000 in
theorem gL_law_X4_iron : GoodIn wsL_law (wsV RL 13 RX4 yX4_iron wsX4_iron) := goodIn_app (goodIn_of _ (by decide +kernel)) ggL_law_X4_iron
set_option maxRecDepth 20000 in
theorem ggL_law_X5_iron : GoodIn wsL_law wsX5_iron := goodIn_r _ [77, 78, 79, 80, 5, 81, 82, 83, 84, 85, 55, 86, 87, 88, 89, 58, 939, 940, 941, 942, 943, 944, 945, 946, 947, 948, 949, 950, 951, 952, 953] (by decide +kernel) (by decide +kernel)
set_option maxRecDepth 20000 in
theorem gL_law_X5_iron : GoodIn wsL_law (wsV RL 17 RX5 yX5_iron wsX5_iron) := goodIn_app (goodIn_of _ (by decide +kernel)) ggL_law_X5_iron
set_option maxRecDepth 20000 in
theorem ggL_law_X4_rain : GoodIn wsL_law wsX4_rain := goodIn_r _ [93, 69, 16, 94, 70, 71, 72, 2, 73, 28, 932, 933, 934, 935, 936, 937, 938, 954, 955, 956, 957, 958, 959, 960, 961, 962, 963, 964, 965, 966, 967] (by decide +kernel) (by decide +kernel)
set_option maxRecDepth 20000 in
theorem gL_law_X4_rain : GoodIn wsL_law (wsV RL 18 RX4 yX4_rain wsX4_rain) := goodIn_app (goodIn_of _ (by decide +kernel)) ggL_law_X4_rain
set_option maxRecDepth 20000 in
theorem ggL_law_X5_rain : GoodIn wsL_law wsX5_rain := goodIn_r _ [98, 78, 79, 80, 5, 81, 82, 83, 84, 85, 55, 86, 87, 88, 89, 58, 939, 940, 941, 942, 943, 944, 945, 946, 947, 948, 949, 950, 951, 952, 953] (by decide +kernel) (by decide +kernel)
set_option maxRecDepth 20000 in
theorem gL_law_X5_rain : GoodIn wsL_law (wsV RL 22 RX5 yX5_rain wsX5_rain) := goodIn_app (goodIn_of _ (by decide +kernel)) ggL_law_X5_rain
set_option maxRecDepth 20000 in
theorem ggL_law_X4_now : GoodIn wsL_law wsX4_now := goodIn_r _ [102, 16, 103, 68, 104, 69, 105, 106, 107, 15, 108, 109, 110, 111, 112, 113, 114, 115, 116, 117, 118, 119, 120, 121, 122, 123, 32, 124, 125, 126, 127, 128, 38, 129, 130, 131, 132, 133, 34, 134, 135, 136, 137, 138, 139, 140, 141, 142, 143, 33, 35, 36, 144, 145, 146, 147, 148, 149, 150, 151, 152, 153, 154, 155, 70, 71, 72, 2, 73, 28, 932, 933, 934, 935, 936, 937, 938, 954, 955, 956, 957, 958, 959, 960, 961, 962, 963, 964, 965, 966, 967] (by decide +kernel) (by decide +kernel)
set_option maxRecDepth 20000 in
theorem gL_law_X4_now : GoodIn wsL_law (wsV RL 23 RX4 yX4_now wsX4_now) := goodIn_app (goodIn_of _ (by decide +kernel)) ggL_law_X4_now
set_option maxRecDepth 20000 in
theorem ggL_law_X5_now : GoodIn wsL_law wsX5_now := goodIn_r _ [159, 55, 78, 160, 161, 162, 5, 163, 164, 165, 166, 167, 168, 169, 170, 171, 172, 173, 174, 175, 176, 177, 178, 179, 180, 181, 182, 183, 184, 185, 186, 187, 188, 189, 190, 191, 192, 193, 194, 195, 196, 197, 198, 199, 200, 201, 202, 203, 204, 205, 206, 86, 87, 88, 89, 58, 939, 940, 941, 942, 943, 944, 945, 946, 947, 948, 949, 950, 951, 952, 953] (by decide +kernel) (by decide +kernel)
set_option maxRecDepth 20000 in
theorem gL_law_X5_now : GoodIn wsL_law (wsV RL 26 RX5 yX5_now wsX5_now) := goodIn_app (goodIn_of _ (by decide +kernel)) ggL_law_X5_now
set_option maxRecDepth 20000 in
theorem ggL_law_X4_mother : GoodIn wsL_law wsX4_mother := goodIn_r _ [210, 69, 16, 211, 212, 213, 214, 146, 215, 70, 71, 72, 2, 73, 28, 216, 217, 218, 15, 219, 133, 33, 34, 35, 36, 932, 933, 934, 935, 936, 937, 938, 954, 955, 956, 957, 958, 959, 960, 961, 962, 963, 964, 965, 966, 967] (by decide +kernel) (by decide +kernel)
set_option maxRecDepth 20000 in
theorem gL_law_X4_mother : GoodIn wsL_law (wsV RL 27 RX4 yX4_mother wsX4_mother) := goodIn_app (goodIn_of _ (by decide +kernel)) ggL_law_X4_mother
set_option maxRecDepth 20000 in
theorem ggL_law_X5_mother : GoodIn wsL_law wsX5_mother := goodIn_r _ [223, 78, 55, 224, 79, 80, 5, 81, 86, 87, 88, 89, 58, 225, 226, 227, 228, 229, 230, 231, 232, 939, 940, 941, 942, 943, 944, 945, 946, 947, 948, 949, 950, 951, 952, 953] (by decide +kernel) (by decide +kernel)
set_option maxRecDepth 20000 in
theorem gL_law_X5_mother : GoodIn wsL_law (wsV RL 30 RX5 yX5_mother wsX5_mother) := goodIn_app (goodIn_of _ (by decide +kernel)) ggL_law_X5_mother
set_option maxRecDepth 20000 in
theorem ggL_law_X4_of : GoodIn wsL_law wsX4_of := goodIn_r _ [236, 16, 69, 237, 238, 239, 240, 241, 242, 243, 15, 244, 133, 70, 71, 72, 2, 73, 28, 245, 136, 137, 138, 34, 110, 111, 112, 113, 114, 106, 107, 108, 109, 246, 141, 142, 143, 33, 35, 36, 144, 145, 146, 147, 247, 248, 249, 250, 251, 252, 253, 254, 255, 256, 257, 932, 933, 934, 935, 936, 937, 938, 954, 955, 956, 957, 958, 959, 960, 961, 962, 963, 964, 965, 966, 967] (by decide +kernel) (by decide +kernel)
set_option maxRecDepth 20000 in
theorem gL_law_X4_of : GoodIn wsL_law (wsV RL 31 RX4 yX4_of wsX4_of) := goodIn_app (goodIn_of _ (by decide +kernel)) ggL_law_X4_of
set_option maxRecDepth 20000 in
theorem ggL_law_X5_of : GoodIn wsL_law wsX5_of := goodIn_r _ [261, 78, 262, 263, 264, 5, 265, 55, 79, 80, 81, 86, 87, 88, 89, 58, 195, 196, 197, 198, 191, 192, 193, 194, 199, 200, 201, 202, 203, 204, 205, 206, 184, 185, 186, 164, 165, 166, 167, 160, 161, 162, 163, 266, 267, 268, 269, 270, 271, 272, 273, 939, 940, 941, 942, 943, 944, 945, 946, 947, 948, 949, 950, 951, 952, 953] (by decide +kernel) (by decide +kernel)
set_option maxRecDepth 20000 in
theorem gL_law_X5_of : GoodIn wsL_law (wsV RL 34 RX5 yX5_of wsX5_of) := goodIn_app (goodIn_of _ (by decide +kernel)) ggL_law_X5_of
set_option maxRecDepth 20000 in
theorem ggL_law_X4_set : GoodIn wsL_law wsX4_set := goodIn_r _ [277, 16, 69, 239, 240, 241, 242, 243, 15, 244, 133, 70, 71, 72, 2, 73, 28, 932, 933, 934, 935, 936, 937, 938, 954, 955, 956, 957, 958, 959, 960, 961, 962, 963, 964, 965, 966, 967] (by decide +kernel) (by decide +kernel)
set_option maxRecDepth 20000 in
theorem gL_law_X4_set : GoodIn wsL_law (wsV RL 35 RX4 yX4_set wsX4_set) := goodIn_app (goodIn_of _ (by decide +kernel)) ggL_law_X4_set
set_option maxRecDepth 20000 in
theorem ggL_law_X5_set : GoodIn wsL_law wsX5_set := goodIn_r _ [281, 78, 262, 263, 264, 5, 265, 55, 79, 80, 81, 82, 83, 84, 85, 86, 87, 88, 89, 58, 939, 940, 941, 942, 943, 944, 945, 946, 947, 948, 949, 950, 951, 952, 953] (by decide +kernel) (by decide +kernel)
set_option maxRecDepth 20000 in
theorem gL_law_X5_set : GoodIn wsL_law (wsV RL 39 RX5 yX5_set wsX5_set) := goodIn_app (goodIn_of _ (by decide +kernel)) ggL_law_X5_set
set_option maxRecDepth 20000 in
theorem ggL_law_X4_out : GoodIn wsL_law wsX4_out := goodIn_r _ [285, 16, 69, 238, 241, 242, 243, 15, 244, 133, 70, 71, 72, 2, 73, 28, 286, 287, 288, 289, 34, 36, 932, 933, 934, 935, 936, 937, 938, 954, 955, 956, 957, 958, 959, 960, 961, 962, 963, 964, 965, 966, 967] (by decide +kernel) (by decide +kernel)
set_option maxRecDepth 20000 in
theorem gL_law_X4_out : GoodIn wsL_law (wsV RL 40 RX4 yX4_out wsX4_out) := goodIn_app (goodIn_of _ (by decide +kernel)) ggL_law_X4_out
set_option maxRecDepth 20000 in
theorem ggL_law_X5_out : GoodIn wsL_law wsX5_out := goodIn_r _ [293, 78, 262, 263, 264, 5, 265, 55, 79, 80, 81, 294, 295, 296, 297, 229, 230, 231, 232, 82, 83, 84, 85, 86, 87, 88, 89, 58, 939, 940, 941, 942, 943, 944, 945, 946, 947, 948, 949, 950, 951, 952, 953] (by decide +kernel) (by decide +kernel)
set_option maxRecDepth 20000 in
theorem gL_law_X5_out : GoodIn wsL_law (wsV RL 43 RX5 yX5_out wsX5_out) := goodIn_app (goodIn_of _ (by decide +kernel)) ggL_law_X5_out
set_option maxRecDepth 20000 in
theorem ggL_law_X4_turn : GoodIn wsL_law wsX4_turn := goodIn_r _ [301, 16, 69, 237, 241, 242, 243, 15, 244, 133, 213, 214, 146, 215, 70, 71, 72, 2, 73, 28, 932, 933, 934, 935, 936, 937, 938, 954, 955, 956, 957, 958, 959, 960, 961, 962, 963, 964, 965, 966, 967] (by decide +kernel) (by decide +kernel)
set_option maxRecDepth 20000 in
theorem gL_law_X4_turn : GoodIn wsL_law (wsV RL 44 RX4 yX4_turn wsX4_turn) := goodIn_app (goodIn_of _ (by decide +kernel)) ggL_law_X4_turn
set_option maxRecDepth 20000 in
theorem ggL_law_X5_turn : GoodIn wsL_law wsX5_turn := goodIn_r _ [305, 78, 262, 263, 264, 5, 265, 55, 79, 80, 81, 82, 83, 84, 85, 86, 87, 88, 89, 58, 939, 940, 941, 942, 943, 944, 945, 946, 947, 948, 949, 950, 951, 952, 953] (by decide +kernel) (by decide +kernel)
set_option maxRecDepth 20000 in
theorem gL_law_X5_turn : GoodIn wsL_law (wsV RL 47 RX5 yX5_turn wsX5_turn) := goodIn_app (goodIn_of _ (by decide +kernel)) ggL_law_X5_turn
set_option maxRecDepth 20000 in
theorem ggL_law_X4_as : GoodIn wsL_law wsX4_as := goodIn_r _ [309, 16, 69, 237, 310, 239, 241, 242, 243, 15, 244, 133, 213, 214, 146, 215, 70, 71, 72, 2, 73, 28, 311, 312, 313, 314, 315, 316, 932, 933, 934, 935, 936, 937, 938, 954, 955, 956, 957, 958, 959, 960, 961, 962, 963, 964, 965, 966, 967] (by decide +kernel) (by decide +kernel)
set_option maxRecDepth 20000 in
theorem gL_law_X4_as : GoodIn wsL_law (wsV RL 48 RX4 yX4_as wsX4_as) := goodIn_app (goodIn_of _ (by decide +kernel)) ggL_law_X4_as
set_option maxRecDepth 20000 in
theorem ggL_law_X5_as : GoodIn wsL_law wsX5_as := goodIn_r _ [320, 78, 321, 262, 263, 264, 5, 265, 55, 79, 80, 81, 86, 87, 88, 89, 58, 191, 192, 193, 194, 939, 940, 941, 942, 943, 944, 945, 946, 947, 948, 949, 950, 951, 952, 953] (by decide +kernel) (by decide +kernel)
set_option maxRecDepth 20000 in
theorem gL_law_X5_as : GoodIn wsL_law (wsV RL 51 RX5 yX5_as wsX5_as) := goodIn_app (goodIn_of _ (by decide +kernel)) ggL_law_X5_as
set_option maxRecDepth 20000 in
theorem ggL_law_X4_child : GoodIn wsL_law wsX4_child := goodIn_r _ [325, 69, 16, 326, 212, 70, 71, 72, 2, 73, 28, 327, 328, 329, 15, 330, 128, 37, 38, 39, 932, 933, 934, 935, 936, 937, 938, 954, 955, 956, 957, 958, 959, 960, 961, 962, 963, 964, 965, 966, 967] (by decide +kernel) (by decide +kernel)
set_option maxRecDepth 20000 in
theorem gL_law_X4_child : GoodIn wsL_law (wsV RL 52 RX4 yX4_child wsX4_child) := goodIn_app (goodIn_of _ (by decide +kernel)) ggL_law_X4_child
set_option maxRecDepth 20000 in
theorem ggL_law_X5_child : GoodIn wsL_law wsX5_child := goodIn_r _ [334, 78, 55, 224, 79, 80, 5, 81, 86, 87, 88, 89, 58, 335, 336, 337, 338, 339, 340, 341, 342, 939, 940, 941, 942, 943, 944, 945, 946, 947, 948, 949, 950, 951, 952, 953] (by decide +kernel) (by decide +kernel)
set_option maxRecDepth 20000 in
theorem gL_law_X5_child : GoodIn wsL_law (wsV RL 55 RX5 yX5_child wsX5_child) := goodIn_app (goodIn_of _ (by decide +kernel)) ggL_law_X5_child
set_option maxRecDepth 20000 in
theorem ggL_law_X4_childOf : GoodIn wsL_law wsX4_childOf := goodIn_r _ [346, 16, 69, 347, 348, 349, 350, 351, 352, 15, 353, 128, 70, 71, 72, 2, 73, 28, 932, 933, 934, 935, 936, 937, 938, 954, 955, 956, 957, 958, 959, 960, 961, 962, 963, 964, 965, 966, 967] (by decide +kernel) (by decide +kernel)
set_option maxRecDepth 20000 in
theorem gL_law_X4_childOf : GoodIn wsL_law (wsV RL 56 RX4 yX4_childOf wsX4_childOf) := goodIn_app (goodIn_of _ (by decide +kernel)) ggL_law_X4_childOf
set_option maxRecDepth 20000 in
theorem ggL_law_X5_childOf : GoodIn wsL_law wsX5_childOf := goodIn_r _ [357, 78, 358, 359, 360, 5, 361, 55, 79, 80, 81, 180, 181, 182, 183, 86, 87, 88, 89, 58, 939, 940, 941, 942, 943, 944, 945, 946, 947, 948, 949, 950, 951, 952, 953] (by decide +kernel) (by decide +kernel)
set_option maxRecDepth 20000 in
theorem gL_law_X5_childOf : GoodIn wsL_law (wsV RL 59 RX5 yX5_childOf wsX5_childOf) := goodIn_app (goodIn_of _ (by decide +kernel)) ggL_law_X5_childOf
set_option maxRecDepth 20000 in
theorem ggL_law_X4_grip : GoodIn wsL_law wsX4_grip := goodIn_r _ [365, 16, 69, 347, 350, 351, 352, 15, 353, 128, 70, 71, 72, 2, 73, 28, 932, 933, 934, 935, 936, 937, 938, 954, 955, 956, 957, 958, 959, 960, 961, 962, 963, 964, 965, 966, 967] (by decide +kernel) (by decide +kernel)
set_option maxRecDepth 20000 in
theorem gL_law_X4_grip : GoodIn wsL_law (wsV RL 60 RX4 yX4_grip wsX4_grip) := goodIn_app (goodIn_of _ (by decide +kernel)) ggL_law_X4_grip
set_option maxRecDepth 20000 in
theorem ggL_law_X5_grip : GoodIn wsL_law wsX5_grip := goodIn_r _ [369, 78, 358, 359, 360, 5, 361, 55, 79, 80, 81, 82, 83, 84, 85, 86, 87, 88, 89, 58, 939, 940, 941, 942, 943, 944, 945, 946, 947, 948, 949, 950, 951, 952, 953] (by decide +kernel) (by decide +kernel)
set_option maxRecDepth 20000 in
theorem gL_law_X5_grip : GoodIn wsL_law (wsV RL 63 RX5 yX5_grip wsX5_grip) := goodIn_app (goodIn_of _ (by decide +kernel)) ggL_law_X5_grip
set_option maxRecDepth 20000 in
theorem ggL_law_X4_ride : GoodIn wsL_law wsX4_ride := goodIn_r _ [373, 16, 69, 348, 350, 351, 352, 15, 353, 128, 70, 71, 72, 2, 73, 28, 374, 125, 126, 127, 38, 932, 933, 934, 935, 936, 937, 938, 954, 955, 956, 957, 958, 959, 960, 961, 962, 963, 964, 965, 966, 967] (by decide +kernel) (by decide +kernel)
set_option maxRecDepth 20000 in
theorem gL_law_X4_ride : GoodIn wsL_law (wsV RL 64 RX4 yX4_ride wsX4_ride) := goodIn_app (goodIn_of _ (by decide +kernel)) ggL_law_X4_ride
set_option maxRecDepth 20000 in
theorem ggL_law_X5_ride : GoodIn wsL_law wsX5_ride := goodIn_r _ [378, 78, 358, 359, 360, 5, 361, 55, 79, 80, 81, 86, 87, 88, 89, 58, 339, 340, 341, 342, 176, 177, 178, 179, 180, 181, 182, 183, 184, 185, 186, 939, 940, 941, 942, 943, 944, 945, 946, 947, 948, 949, 950, 951, 952, 953] (by decide +kernel) (by decide +kernel)
set_option maxRecDepth 20000 in
theorem gL_law_X5_ride : GoodIn wsL_law (wsV RL 67 RX5 yX5_ride wsX5_ride) := goodIn_app (goodIn_of _ (by decide +kernel)) ggL_law_X5_ride
set_option maxRecDepth 20000 in
theorem ggL_law_X4_minutes : GoodIn wsL_law wsX4_minutes := goodIn_r _ [382, 69, 16, 103, 383, 384, 68, 70, 71, 72, 2, 73, 28, 385, 386, 387, 15, 388, 389, 390, 391, 392, 251, 393, 394, 395, 396, 397, 398, 399, 400, 401, 109, 402, 130, 131, 132, 133, 34, 134, 116, 117, 118, 119, 114, 106, 107, 108, 135, 136, 137, 138, 139, 111, 112, 113, 140, 141, 142, 143, 33, 35, 36, 144, 145, 146, 147, 403, 121, 122, 123, 32, 124, 125, 126, 127, 128, 38, 404, 405, 406, 407, 37, 39, 408, 409, 410, 411, 412, 248, 249, 250, 252, 253, 254, 413, 256, 257, 932, 933, 934, 935, 936, 937, 938, 954, 955, 956, 957, 958, 959, 960, 961, 962, 963, 964, 965, 966, 967] (by decide +kernel) (by decide +kernel)
set_option maxRecDepth 20000 in
theorem gL_law_X4_minutes : GoodIn wsL_law (wsV RL 68 RX4 yX4_minutes wsX4_minutes) := goodIn_app (goodIn_of _ (by decide +kernel)) ggL_law_X4_minutes
set_option maxRecDepth 20000 in
theorem ggL_law_X5_minutes : GoodIn wsL_law wsX5_minutes := goodIn_r _ [417, 78, 55, 418, 419, 79, 80, 5, 81, 86, 87, 88, 89, 58, 420, 421, 422, 423, 424, 425, 426, 427, 428, 187, 188, 189, 190, 191, 192, 193, 194, 195, 196, 197, 198, 199, 200, 201, 202, 203, 204, 205, 206, 184, 185, 186, 164, 165, 166, 167, 160, 161, 162, 163, 168, 169, 170, 171, 172, 173, 174, 175, 176, 177, 178, 179, 180, 181, 182, 183, 429, 430, 431, 432, 433, 434, 435, 339, 340, 341, 342, 266, 267, 268, 269, 270, 271, 272, 273, 229, 230, 231, 232, 939, 940, 941, 942, 943, 944, 945, 946, 947, 948, 949, 950, 951, 952, 953] (by decide +kernel) (by decide +kernel)
set_option maxRecDepth 20000 in
theorem gL_law_X5_minutes : GoodIn wsL_law (wsV RL 71 RX5 yX5_minutes wsX5_minutes) := goodIn_app (goodIn_of _ (by decide +kernel)) ggL_law_X5_minutes
set_option maxRecDepth 20000 in
theorem ggL_law_X4_on : GoodIn wsL_law wsX4_on := goodIn_r _ [439, 69, 17, 16, 68, 104, 70, 71, 72, 2, 73, 28, 440, 441, 442, 15, 443, 109, 119, 32, 251, 401, 133, 33, 444, 445, 446, 447, 34, 35, 36, 128, 37, 38, 39, 385, 386, 387, 388, 389, 390, 391, 392, 393, 394, 395, 396, 397, 398, 399, 400, 402, 130, 131, 132, 134, 116, 117, 118, 114, 106, 107, 108, 135, 136, 137, 138, 139, 111, 112, 113, 140, 141, 142, 143, 144, 145, 146, 147, 403, 121, 122, 123, 124, 125, 126, 127, 404, 405, 406, 407, 408, 409, 410, 411, 412, 248, 249, 250, 252, 253, 254, 413, 256, 257, 152, 153, 154, 155, 932, 933, 934, 935, 936, 937, 938, 954, 955, 956, 957, 958, 959, 960, 961, 962, 963, 964, 965, 966, 967] (by decide +kernel) (by decide +kernel)
set_option maxRecDepth 20000 in
theorem gL_law_X4_on : GoodIn wsL_law (wsV RL 72 RX4 yX4_on wsX4_on) := goodIn_app (goodIn_of _ (by decide +kernel)) ggL_law_X4_on
set_option maxRecDepth 20000 in
theorem ggL_law_X5_on : GoodIn wsL_law wsX5_on := goodIn_r _ [451, 78, 55, 79, 80, 5, 81, 86, 87, 88, 89, 58, 452, 453, 454, 455, 57, 456, 457, 458, 420, 421, 422, 423, 424, 425, 426, 427, 428, 187, 188, 189, 190, 191, 192, 193, 194, 195, 196, 197, 198, 199, 200, 201, 202, 203, 204, 205, 206, 184, 185, 186, 164, 165, 166, 167, 160, 161, 162, 163, 168, 169, 170, 171, 172, 173, 174, 175, 176, 177, 178, 179, 180, 181, 182, 183, 429, 430, 431, 432, 433, 434, 435, 339, 340, 341, 342, 266, 267, 268, 269, 270, 271, 272, 273, 229, 230, 231, 232, 459, 460, 461, 462, 939, 940, 941, 942, 943, 944, 945, 946, 947, 948, 949, 950, 951, 952, 953] (by decide +kernel) (by decide +kernel)
set_option maxRecDepth 20000 in
theorem gL_law_X5_on : GoodIn wsL_law (wsV RL 75 RX5 yX5_on wsX5_on) := goodIn_app (goodIn_of _ (by decide +kernel)) ggL_law_X5_on
set_option maxRecDepth 20000 in
theorem ggL_law_X4_then : GoodIn wsL_law wsX4_then := goodIn_r _ [466, 16, 69, 17, 239, 240, 241, 242, 243, 15, 244, 133, 70, 71, 72, 2, 73, 28, 440, 441, 442, 443, 109, 119, 32, 251, 401, 33, 444, 445, 446, 447, 34, 35, 36, 128, 37, 38, 39, 385, 386, 387, 388, 389, 390, 391, 392, 393, 394, 395, 396, 397, 398, 399, 400, 402, 130, 131, 132, 134, 116, 117, 118, 114, 106, 107, 108, 135, 136, 137, 138, 139, 111, 112, 113, 140, 141, 142, 143, 144, 145, 146, 147, 403, 121, 122, 123, 124, 125, 126, 127, 404, 405, 406, 407, 408, 409, 410, 411, 412, 248, 249, 250, 252, 253, 254, 413, 256, 257, 932, 933, 934, 935, 936, 937, 938, 954, 955, 956, 957, 958, 959, 960, 961, 962, 963, 964, 965, 966, 967] (by decide +kernel) (by decide +kernel)
set_option maxRecDepth 20000 in
theorem gL_law_X4_then : GoodIn wsL_law (wsV RL 76 RX4 yX4_then wsX4_then) := goodIn_app (goodIn_of _ (by decide +kernel)) ggL_law_X4_then
set_option maxRecDepth 20000 in
theorem ggL_law_X5_then : GoodIn wsL_law wsX5_then := goodIn_r _ [470, 78, 262, 263, 264, 5, 265, 55, 79, 80, 81, 86, 87, 88, 89, 58, 452, 453, 454, 455, 57, 456, 457, 458, 420, 421, 422, 423, 424, 425, 426, 427, 428, 187, 188, 189, 190, 191, 192, 193, 194, 195, 196, 197, 198, 199, 200, 201, 202, 203, 204, 205, 206, 184, 185, 186, 164, 165, 166, 167, 160, 161, 162, 163, 168, 169, 170, 171, 172, 173, 174, 175, 176, 177, 178, 179, 180, 181, 182, 183, 429, 430, 431, 432, 433, 434, 435, 339, 340, 341, 342, 266, 267, 268, 269, 270, 271, 272, 273, 229, 230, 231, 232, 459, 460, 461, 462, 939, 940, 941, 942, 943, 944, 945, 946, 947, 948, 949, 950, 951, 952, 953] (by decide +kernel) (by decide +kernel)
set_option maxRecDepth 20000 in
theorem gL_law_X5_then : GoodIn wsL_law (wsV RL 79 RX5 yX5_then wsX5_then) := goodIn_app (goodIn_of _ (by decide +kernel)) ggL_law_X5_then
set_option maxRecDepth 20000 in
theorem ggL_law_X4_quick : GoodIn wsL_law wsX4_quick := goodIn_r _ [474, 69, 17, 16, 68, 475, 70, 71, 72, 2, 73, 28, 440, 441, 442, 15, 443, 109, 119, 32, 251, 401, 133, 33, 444, 445, 446, 447, 34, 35, 36, 128, 37, 38, 39, 476, 390, 391, 392, 393, 394, 395, 396, 397, 398, 399, 400, 402, 130, 131, 132, 134, 116, 117, 118, 114, 106, 107, 108, 135, 136, 137, 138, 139, 111, 112, 113, 140, 141, 142, 143, 144, 145, 146, 147, 403, 121, 122, 123, 124, 125, 126, 127, 404, 405, 406, 407, 408, 409, 410, 411, 412, 248, 249, 250, 252, 253, 254, 413, 256, 257, 932, 933, 934, 935, 936, 937, 938, 954, 955, 956, 957, 958, 959, 960, 961, 962, 963, 964, 965, 966, 967] (by decide +kernel) (by decide +kernel)
set_option maxRecDepth 20000 in
theorem gL_law_X4_quick : GoodIn wsL_law (wsV RL 80 RX4 yX4_quick wsX4_quick) := goodIn_app (goodIn_of _ (by decide +kernel)) ggL_law_X4_quick
set_option maxRecDepth 20000 in
theorem ggL_law_X5_quick : GoodIn wsL_law wsX5_quick := goodIn_r _ [480, 78, 55, 481, 79, 80, 5, 81, 86, 87, 88, 89, 58, 452, 453, 454, 455, 57, 456, 457, 458, 424, 425, 426, 427, 428, 187, 188, 189, 190, 191, 192, 193, 194, 195, 196, 197, 198, 199, 200, 201, 202, 203, 204, 205, 206, 184, 185, 186, 164, 165, 166, 167, 160, 161, 162, 163, 168, 169, 170, 171, 172, 173, 174, 175, 176, 177, 178, 179, 180, 181, 182, 183, 429, 430, 431, 432, 433, 434, 435, 339, 340, 341, 342, 266, 267, 268, 269, 270, 271, 272, 273, 229, 230, 231, 232, 459, 460, 461, 462, 939, 940, 941, 942, 943, 944, 945, 946, 947, 948, 949, 950, 951, 952, 953] (by decide +kernel) (by decide +kernel)
set_option maxRecDepth 20000 in
theorem gL_law_X5_quick : GoodIn wsL_law (wsV RL 83 RX5 yX5_quick wsX5_quick) := goodIn_app (goodIn_of _ (by decide +kernel)) ggL_law_X5_quick
set_option maxRecDepth 20000 in
theorem ggL_law_X4_stands : GoodIn wsL_law wsX4_stands := goodIn_r _ [485, 17, 16, 68, 475, 440, 441, 442, 15, 443, 109, 119, 32, 251, 401, 133, 33, 444, 445, 446, 447, 34, 35, 36, 128, 37, 38, 39, 476, 390, 391, 392, 393, 394, 395, 396, 397, 398, 399, 400, 402, 130, 131, 132, 134, 116, 117, 118, 114, 106, 107, 108, 135, 136, 137, 138, 139, 111, 112, 113, 140, 141, 142, 143, 144, 145, 146, 147, 403, 121, 122, 123, 124, 125, 126, 127, 404, 405, 406, 407, 408, 409, 410, 411, 412, 248, 249, 250, 252, 253, 254, 413, 256, 257, 70, 71, 72, 2, 73, 69, 28, 932, 933, 934, 935, 936, 937, 938, 954, 955, 956, 957, 958, 959, 960, 961, 962, 963, 964, 965, 966, 967] (by decide +kernel) (by decide +kernel)
set_option maxRecDepth 20000 in
theorem gL_law_X4_stands : GoodIn wsL_law (wsV RL 84 RX4 yX4_stands wsX4_stands) := goodIn_app (goodIn_of _ (by decide +kernel)) ggL_law_X4_stands
set_option maxRecDepth 20000 in
theorem ggL_law_X5_stands : GoodIn wsL_law wsX5_stands := goodIn_r _ [489, 55, 481, 452, 453, 454, 5, 455, 57, 456, 457, 458, 424, 425, 426, 427, 428, 187, 188, 189, 190, 191, 192, 193, 194, 195, 196, 197, 198, 199, 200, 201, 202, 203, 204, 205, 206, 184, 185, 186, 164, 165, 166, 167, 160, 161, 162, 163, 168, 169, 170, 171, 172, 173, 174, 175, 176, 177, 178, 179, 180, 181, 182, 183, 429, 430, 431, 432, 433, 434, 435, 339, 340, 341, 342, 266, 267, 268, 269, 270, 271, 272, 273, 229, 230, 231, 232, 459, 460, 461, 462, 86, 87, 88, 89, 58, 78, 939, 940, 941, 942, 943, 944, 945, 946, 947, 948, 949, 950, 951, 952, 953] (by decide +kernel) (by decide +kernel)
set_option maxRecDepth 20000 in
theorem gL_law_X5_stands : GoodIn wsL_law (wsV RL 88 RX5 yX5_stands wsX5_stands) := goodIn_app (goodIn_of _ (by decide +kernel)) ggL_law_X5_stands
set_option maxRecDepth 20000 in
theorem ggL_law_X4_flung : GoodIn wsL_law wsX4_flung := goodIn_r _ [493, 16, 69, 17, 348, 475, 350, 351, 352, 15, 353, 128, 70, 71, 72, 2, 73, 28, 440, 441, 442, 443, 109, 119, 32, 251, 401, 133, 33, 444, 445, 446, 447, 34, 35, 36, 37, 38, 39, 476, 390, 391, 392, 393, 394, 395, 396, 397, 398, 399, 400, 402, 130, 131, 132, 134, 116, 117, 118, 114, 106, 107, 108, 135, 136, 137, 138, 139, 111, 112, 113, 140, 141, 142, 143, 144, 145, 146, 147, 403, 121, 122, 123, 124, 125, 126, 127, 404, 405, 406, 407, 408, 409, 410, 411, 412, 248, 249, 250, 252, 253, 254, 413, 256, 257, 932, 933, 934, 935, 936, 937, 938, 954, 955, 956, 957, 958, 959, 960, 961, 962, 963, 964, 965, 966, 967] (by decide +kernel) (by decide +kernel)
set_option maxRecDepth 20000 in
theorem gL_law_X4_flung : GoodIn wsL_law (wsV RL 89 RX4 yX4_flung wsX4_flung) := goodIn_app (goodIn_of _ (by decide +kernel)) ggL_law_X4_flung
set_option maxRecDepth 20000 in
theorem ggL_law_X5_flung : GoodIn wsL_law wsX5_flung := goodIn_r _ [497, 78, 481, 358, 359, 360, 5, 361, 55, 79, 80, 81, 86, 87, 88, 89, 58, 452, 453, 454, 455, 57, 456, 457, 458, 180, 181, 182, 183, 424, 425, 426, 427, 428, 187, 188, 189, 190, 191, 192, 193, 194, 195, 196, 197, 198, 199, 200, 201, 202, 203, 204, 205, 206, 184, 185, 186, 164, 165, 166, 167, 160, 161, 162, 163, 168, 169, 170, 171, 172, 173, 174, 175, 176, 177, 178, 179, 429, 430, 431, 432, 433, 434, 435, 339, 340, 341, 342, 266, 267, 268, 269, 270, 271, 272, 273, 229, 230, 231, 232, 459, 460, 461, 462, 939, 940, 941, 942, 943, 944, 945, 946, 947, 948, 949, 950, 951, 952, 953] (by decide +kernel) (by decide +kernel)
set_option maxRecDepth 20000 in
theorem gL_law_X5_flung : GoodIn wsL_law (wsV RL 92 RX5 yX5_flung wsX5_flung) := goodIn_app (goodIn_of _ (by decide +kernel)) ggL_law_X5_flung
set_option maxRecDepth 20000 in
theorem ggL_law_X4_send : GoodIn wsL_law wsX4_send := goodIn_r _ [501, 69, 16, 211, 238, 17, 104, 475, 502, 503, 2, 504, 70, 71, 72, 73, 28, 440, 441, 442, 15, 443, 109, 119, 32, 251, 401, 133, 33, 444, 445, 446, 447, 34, 35, 36, 128, 37, 38, 39, 286, 287, 288, 289, 385, 386, 387, 388, 389, 390, 391, 392, 393, 394, 395, 396, 397, 398, 399, 400, 402, 130, 131, 132, 134, 116, 117, 118, 114, 106, 107, 108, 135, 136, 137, 138, 139, 111, 112, 113, 140, 141, 142, 143, 144, 145, 146, 147, 403, 121, 122, 123, 124, 125, 126, 127, 404, 405, 406, 407, 408, 409, 410, 411, 412, 248, 249, 250, 252, 253, 254, 413, 256, 257, 932, 933, 934, 935, 936, 937, 938, 954, 955, 956, 957, 958, 959, 960, 961, 962, 963, 964, 965, 966, 967] (by decide +kernel) (by decide +kernel)
set_option maxRecDepth 20000 in
theorem gL_law_X4_send : GoodIn wsL_law (wsV RL 93 RX4 yX4_send wsX4_send) := goodIn_app (goodIn_of _ (by decide +kernel)) ggL_law_X4_send
set_option maxRecDepth 20000 in
theorem ggL_law_X5_send : GoodIn wsL_law wsX5_send := goodIn_r _ [508, 78, 55, 79, 80, 5, 81, 86, 87, 88, 89, 58, 452, 453, 454, 455, 57, 456, 457, 458, 191, 192, 193, 194, 294, 295, 296, 297, 229, 230, 231, 232, 82, 83, 84, 85, 509, 510, 511, 512, 420, 421, 422, 423, 424, 425, 426, 427, 428, 187, 188, 189, 190, 195, 196, 197, 198, 199, 200, 201, 202, 203, 204, 205, 206, 184, 185, 186, 164, 165, 166, 167, 160, 161, 162, 163, 168, 169, 170, 171, 172, 173, 174, 175, 176, 177, 178, 179, 180, 181, 182, 183, 429, 430, 431, 432, 433, 434, 435, 339, 340, 341, 342, 266, 267, 268, 269, 270, 271, 272, 273, 459, 460, 461, 462, 513, 514, 515, 516, 481, 939, 940, 941, 942, 943, 944, 945, 946, 947, 948, 949, 950, 951, 952, 953] (by decide +kernel) (by decide +kernel)
set_option maxRecDepth 20000 in
theorem gL_law_X5_send : GoodIn wsL_law (wsV RL 96 RX5 yX5_send wsX5_send) := goodIn_app (goodIn_of _ (by decide +kernel)) ggL_law_X5_send
set_option maxRecDepth 20000 in
theorem ggL_law_X4_kind : GoodIn wsL_law wsX4_kind := goodIn_r _ [520, 16, 69, 17, 237, 104, 241, 242, 243, 15, 244, 133, 502, 503, 2, 504, 70, 71, 72, 73, 28, 440, 441, 442, 443, 109, 119, 32, 251, 401, 33, 444, 445, 446, 447, 34, 35, 36, 128, 37, 38, 39, 385, 386, 387, 388, 389, 390, 391, 392, 393, 394, 395, 396, 397, 398, 399, 400, 402, 130, 131, 132, 134, 116, 117, 118, 114, 106, 107, 108, 135, 136, 137, 138, 139, 111, 112, 113, 140, 141, 142, 143, 144, 145, 146, 147, 403, 121, 122, 123, 124, 125, 126, 127, 404, 405, 406, 407, 408, 409, 410, 411, 412, 248, 249, 250, 252, 253, 254, 413, 256, 257, 932, 933, 934, 935, 936, 937, 938, 954, 955, 956, 957, 958, 959, 960, 961, 962, 963, 964, 965, 966, 967] (by decide +kernel) (by decide +kernel)
set_option maxRecDepth 20000 in
theorem gL_law_X4_kind : GoodIn wsL_law (wsV RL 97 RX4 yX4_kind wsX4_kind) := goodIn_app (goodIn_of _ (by decide +kernel)) ggL_law_X4_kind
set_option maxRecDepth 20000 in
theorem ggL_law_X5_kind : GoodIn wsL_law wsX5_kind := goodIn_r _ [524, 78, 262, 263, 264, 5, 265, 55, 79, 80, 81, 86, 87, 88, 89, 58, 452, 453, 454, 455, 57, 456, 457, 458, 229, 230, 231, 232, 509, 510, 511, 512, 420, 421, 422, 423, 424, 425, 426, 427, 428, 187, 188, 189, 190, 191, 192, 193, 194, 195, 196, 197, 198, 199, 200, 201, 202, 203, 204, 205, 206, 184, 185, 186, 164, 165, 166, 167, 160, 161, 162, 163, 168, 169, 170, 171, 172, 173, 174, 175, 176, 177, 178, 179, 180, 181, 182, 183, 429, 430, 431, 432, 433, 434, 435, 339, 340, 341, 342, 266, 267, 268, 269, 270, 271, 272, 273, 459, 460, 461, 462, 939, 940, 941, 942, 943, 944, 945, 946, 947, 948, 949, 950, 951, 952, 953] (by decide +kernel) (by decide +kernel)
set_option maxRecDepth 20000 in
theorem gL_law_X5_kind : GoodIn wsL_law (wsV RL 100 RX5 yX5_kind wsX5_kind) := goodIn_app (goodIn_of _ (by decide +kernel)) ggL_law_X5_kind
set_option maxRecDepth 20000 in
theorem ggL_law_X4_firm : GoodIn wsL_law wsX4_firm := goodIn_r _ [528, 16, 69, 475, 350, 351, 352, 15, 353, 128, 502, 503, 2, 504, 70, 71, 72, 73, 28, 529, 530, 531, 532, 17, 347, 349, 440, 441, 442, 443, 109, 119, 32, 251, 401, 133, 33, 444, 445, 446, 447, 34, 35, 36, 37, 38, 39, 385, 386, 387, 388, 389, 390, 391, 392, 393, 394, 395, 396, 397, 398, 399, 400, 402, 130, 131, 132, 134, 116, 117, 118, 114, 106, 107, 108, 135, 136, 137, 138, 139, 111, 112, 113, 140, 141, 142, 143, 144, 145, 146, 147, 403, 121, 122, 123, 124, 125, 126, 127, 404, 405, 406, 407, 408, 409, 410, 411, 412, 248, 249, 250, 252, 253, 254, 413, 256, 257, 932, 933, 934, 935, 936, 937, 938, 954, 955, 956, 957, 958, 959, 960, 961, 962, 963, 964, 965, 966, 967] (by decide +kernel) (by decide +kernel)
set_option maxRecDepth 20000 in
theorem gL_law_X4_firm : GoodIn wsL_law (wsV RL 101 RX4 yX4_firm wsX4_firm) := goodIn_app (goodIn_of _ (by decide +kernel)) ggL_law_X4_firm
set_option maxRecDepth 20000 in
theorem ggL_law_X5_firm : GoodIn wsL_law wsX5_firm := goodIn_r _ [536, 78, 358, 359, 360, 5, 361, 55, 79, 80, 81, 86, 87, 88, 89, 58, 452, 453, 454, 455, 57, 456, 457, 458, 180, 181, 182, 183, 339, 340, 341, 342, 420, 421, 422, 423, 424, 425, 426, 427, 428, 187, 188, 189, 190, 191, 192, 193, 194, 195, 196, 197, 198, 199, 200, 201, 202, 203, 204, 205, 206, 184, 185, 186, 164, 165, 166, 167, 160, 161, 162, 163, 168, 169, 170, 171, 172, 173, 174, 175, 176, 177, 178, 179, 429, 430, 431, 432, 433, 434, 435, 266, 267, 268, 269, 270, 271, 272, 273, 229, 230, 231, 232, 459, 460, 461, 462, 513, 514, 515, 516, 481, 939, 940, 941, 942, 943, 944, 945, 946, 947, 948, 949, 950, 951, 952, 953] (by decide +kernel) (by decide +kernel)
set_option maxRecDepth 20000 in
theorem gL_law_X5_firm : GoodIn wsL_law (wsV RL 104 RX5 yX5_firm wsX5_firm) := goodIn_app (goodIn_of _ (by decide +kernel)) ggL_law_X5_firm
set_option maxRecDepth 20000 in
theorem ggL_law_X4_heavy : GoodIn wsL_law wsX4_heavy := goodIn_r _ [540, 69, 16, 17, 67, 475, 502, 503, 2, 504, 70, 71, 72, 73, 28, 541, 542, 543, 15, 544, 128, 39, 440, 441, 442, 443, 109, 119, 32, 251, 401, 133, 33, 444, 445, 446, 447, 34, 35, 36, 37, 38, 385, 386, 387, 388, 389, 390, 391, 392, 393, 394, 395, 396, 397, 398, 399, 400, 402, 130, 131, 132, 134, 116, 117, 118, 114, 106, 107, 108, 135, 136, 137, 138, 139, 111, 112, 113, 140, 141, 142, 143, 144, 145, 146, 147, 403, 121, 122, 123, 124, 125, 126, 127, 404, 405, 406, 407, 408, 409, 410, 411, 412, 248, 249, 250, 252, 253, 254, 413, 256, 257, 932, 933, 934, 935, 936, 937, 938, 954, 955, 956, 957, 958, 959, 960, 961, 962, 963, 964, 965, 966, 967] (by decide +kernel) (by decide +kernel)
set_option maxRecDepth 20000 in
theorem gL_law_X4_heavy : GoodIn wsL_law (wsV RL 105 RX4 yX4_heavy wsX4_heavy) := goodIn_app (goodIn_of _ (by decide +kernel)) ggL_law_X4_heavy
set_option maxRecDepth 20000 in
theorem ggL_law_X5_heavy : GoodIn wsL_law wsX5_heavy := goodIn_r _ [548, 78, 55, 79, 80, 5, 81, 86, 87, 88, 89, 58, 452, 453, 454, 455, 57, 456, 457, 458, 549, 550, 551, 552, 180, 181, 182, 183, 420, 421, 422, 423, 424, 425, 426, 427, 428, 187, 188, 189, 190, 191, 192, 193, 194, 195, 196, 197, 198, 199, 200, 201, 202, 203, 204, 205, 206, 184, 185, 186, 164, 165, 166, 167, 160, 161, 162, 163, 168, 169, 170, 171, 172, 173, 174, 175, 176, 177, 178, 179, 429, 430, 431, 432, 433, 434, 435, 339, 340, 341, 342, 266, 267, 268, 269, 270, 271, 272, 273, 229, 230, 231, 232, 459, 460, 461, 462, 513, 514, 515, 516, 481, 939, 940, 941, 942, 943, 944, 945, 946, 947, 948, 949, 950, 951, 952, 953] (by decide +kernel) (by decide +kernel)
set_option maxRecDepth 20000 in
theorem gL_law_X5_heavy : GoodIn wsL_law (wsV RL 108 RX5 yX5_heavy wsX5_heavy) := goodIn_app (goodIn_of _ (by decide +kernel)) ggL_law_X5_heavy
set_option maxRecDepth 20000 in
theorem ggL_law_X4_fewest : GoodIn wsL_law wsX4_fewest := goodIn_r _ [556, 69, 16, 211, 475, 70, 71, 72, 2, 73, 28, 148, 149, 150, 15, 151, 133, 34, 557, 558, 559, 560, 561, 562, 563, 564, 565, 566, 567, 17, 440, 441, 442, 443, 109, 119, 32, 251, 401, 33, 444, 445, 446, 447, 35, 36, 128, 37, 38, 39, 286, 287, 288, 289, 129, 130, 131, 132, 134, 116, 117, 118, 114, 106, 107, 108, 135, 136, 137, 138, 139, 111, 112, 113, 140, 141, 142, 143, 144, 145, 146, 147, 932, 933, 934, 935, 936, 937, 938, 954, 955, 956, 957, 958, 959, 960, 961, 962, 963, 964, 965, 966, 967] (by decide +kernel) (by decide +kernel)
set_option maxRecDepth 20000 in
theorem gL_law_X4_fewest : GoodIn wsL_law (wsV RL 109 RX4 yX4_fewest wsX4_fewest) := goodIn_app (goodIn_of _ (by decide +kernel)) ggL_law_X4_fewest
set_option maxRecDepth 20000 in
theorem ggL_law_X5_fewest : GoodIn wsL_law wsX5_fewest := goodIn_r _ [571, 78, 55, 79, 80, 5, 81, 86, 87, 88, 89, 58, 452, 453, 454, 455, 57, 456, 457, 458, 203, 204, 205, 206, 191, 192, 193, 194, 184, 185, 186, 572, 573, 574, 575, 294, 295, 296, 297, 229, 230, 231, 232, 82, 83, 84, 85, 187, 188, 189, 190, 195, 196, 197, 198, 199, 200, 201, 202, 164, 165, 166, 167, 160, 161, 162, 163, 168, 169, 170, 171, 459, 460, 461, 462, 513, 514, 515, 516, 481, 939, 940, 941, 942, 943, 944, 945, 946, 947, 948, 949, 950, 951, 952, 953] (by decide +kernel) (by decide +kernel)
set_option maxRecDepth 20000 in
theorem gL_law_X5_fewest : GoodIn wsL_law (wsV RL 112 RX5 yX5_fewest wsX5_fewest) := goodIn_app (goodIn_of _ (by decide +kernel)) ggL_law_X5_fewest
set_option maxRecDepth 20000 in
theorem ggL_law_X4_weather : GoodIn wsL_law wsX4_weather := goodIn_r _ [579, 69, 17, 16, 104, 94, 580, 581, 395, 582, 502, 503, 2, 504, 70, 71, 72, 73, 28, 440, 441, 442, 15, 443, 109, 119, 32, 251, 401, 133, 33, 444, 445, 446, 447, 34, 35, 36, 128, 37, 38, 39, 385, 386, 387, 388, 389, 390, 391, 392, 393, 394, 396, 397, 398, 399, 400, 402, 130, 131, 132, 134, 116, 117, 118, 114, 106, 107, 108, 135, 136, 137, 138, 139, 111, 112, 113, 140, 141, 142, 143, 144, 145, 146, 147, 403, 121, 122, 123, 124, 125, 126, 127, 404, 405, 406, 407, 408, 409, 410, 411, 412, 248, 249, 250, 252, 253, 254, 413, 256, 257, 932, 933, 934, 935, 936, 937, 938, 954, 955, 956, 957, 958, 959, 960, 961, 962, 963, 964, 965, 966, 967] (by decide +kernel) (by decide +kernel)
set_option maxRecDepth 20000 in
theorem gL_law_X4_weather : GoodIn wsL_law (wsV RL 113 RX4 yX4_weather wsX4_weather) := goodIn_app (goodIn_of _ (by decide +kernel)) ggL_law_X4_weather
set_option maxRecDepth 20000 in
theorem ggL_law_X5_weather : GoodIn wsL_law wsX5_weather := goodIn_r _ [586, 78, 55, 79, 80, 5, 81, 86, 87, 88, 89, 58, 452, 453, 454, 455, 57, 456, 457, 458, 509, 510, 511, 512, 420, 421, 422, 423, 424, 425, 426, 427, 428, 187, 188, 189, 190, 191, 192, 193, 194, 195, 196, 197, 198, 199, 200, 201, 202, 203, 204, 205, 206, 184, 185, 186, 164, 165, 166, 167, 160, 161, 162, 163, 168, 169, 170, 171, 172, 173, 174, 175, 176, 177, 178, 179, 180, 181, 182, 183, 429, 430, 431, 432, 433, 434, 435, 339, 340, 341, 342, 266, 267, 268, 269, 270, 271, 272, 273, 229, 230, 231, 232, 459, 460, 461, 462, 939, 940, 941, 942, 943, 944, 945, 946, 947, 948, 949, 950, 951, 952, 953] (by decide +kernel) (by decide +kernel)
set_option maxRecDepth 20000 in
theorem gL_law_X5_weather : GoodIn wsL_law (wsV RL 116 RX5 yX5_weather wsX5_weather) := goodIn_app (goodIn_of _ (by decide +kernel)) ggL_law_X5_weather
set_option maxRecDepth 20000 in
theorem ggL_law_X4_deepest : GoodIn wsL_law wsX4_deepest := goodIn_r _ [590, 69, 17, 16, 211, 238, 475, 70, 71, 72, 2, 73, 28, 440, 441, 442, 15, 443, 109, 119, 32, 251, 401, 133, 33, 444, 445, 446, 447, 34, 35, 36, 128, 37, 38, 39, 385, 386, 387, 388, 389, 390, 391, 392, 393, 394, 395, 396, 397, 398, 399, 400, 402, 130, 131, 132, 134, 116, 117, 118, 114, 106, 107, 108, 135, 136, 137, 138, 139, 111, 112, 113, 140, 141, 142, 143, 144, 145, 146, 147, 403, 121, 122, 123, 124, 125, 126, 127, 404, 405, 406, 407, 408, 409, 410, 411, 412, 248, 249, 250, 252, 253, 254, 413, 256, 257, 245, 110, 246, 932, 933, 934, 935, 936, 937, 938, 954, 955, 956, 957, 958, 959, 960, 961, 962, 963, 964, 965, 966, 967] (by decide +kernel) (by decide +kernel)
set_option maxRecDepth 20000 in
theorem gL_law_X4_deepest : GoodIn wsL_law (wsV RL 117 RX4 yX4_deepest wsX4_deepest) := goodIn_app (goodIn_of _ (by decide +kernel)) ggL_law_X4_deepest
set_option maxRecDepth 20000 in
theorem ggL_law_X5_deepest : GoodIn wsL_law wsX5_deepest := goodIn_r _ [594, 78, 55, 79, 80, 5, 81, 86, 87, 88, 89, 58, 452, 453, 454, 455, 57, 456, 457, 458, 420, 421, 422, 423, 424, 425, 426, 427, 428, 187, 188, 189, 190, 191, 192, 193, 194, 195, 196, 197, 198, 199, 200, 201, 202, 203, 204, 205, 206, 184, 185, 186, 164, 165, 166, 167, 160, 161, 162, 163, 168, 169, 170, 171, 172, 173, 174, 175, 176, 177, 178, 179, 180, 181, 182, 183, 429, 430, 431, 432, 433, 434, 435, 339, 340, 341, 342, 266, 267, 268, 269, 270, 271, 272, 273, 229, 230, 231, 232, 459, 460, 461, 462, 513, 514, 515, 516, 481, 939, 940, 941, 942, 943, 944, 945, 946, 947, 948, 949, 950, 951, 952, 953] (by decide +kernel) (by decide +kernel)
set_option maxRecDepth 20000 in
theorem gL_law_X5_deepest : GoodIn wsL_law (wsV RL 120 RX5 yX5_deepest wsX5_deepest) := goodIn_app (goodIn_of _ (by decide +kernel)) ggL_law_X5_deepest
set_option maxRecDepth 20000 in
theorem ggL_law_X4_feed : GoodIn wsL_law wsX4_feed := goodIn_r _ [598, 69, 22, 599, 212, 600, 70, 71, 72, 2, 73, 28, 932, 933, 934, 935, 936, 937, 938, 968, 969, 970, 971, 972, 973] (by decide +kernel) (by decide +kernel)
set_option maxRecDepth 20000 in
theorem gL_law_X4_feed : GoodIn wsL_law (wsV RL 121 RX4 yX4_feed wsX4_feed) := goodIn_app (goodIn_of _ (by decide +kernel)) ggL_law_X4_feed
set_option maxRecDepth 20000 in
theorem ggL_law_X5_feed : GoodIn wsL_law wsX5_feed := goodIn_r _ [604, 78, 605, 224, 59, 79, 80, 5, 81, 86, 87, 88, 89, 58, 939, 940, 941, 942, 943, 944, 945, 946, 947, 948, 949, 950, 951, 952, 953] (by decide +kernel) (by decide +kernel)
set_option maxRecDepth 20000 in
theorem gL_law_X5_feed : GoodIn wsL_law (wsV RL 124 RX5 yX5_feed wsX5_feed) := goodIn_app (goodIn_of _ (by decide +kernel)) ggL_law_X5_feed
set_option maxRecDepth 20000 in
theorem ggL_law_X4_wipe : GoodIn wsL_law wsX4_wipe := goodIn_r _ [609, 22, 599, 932, 933, 934, 935, 936, 937, 938, 968, 969, 970, 971, 972, 973] (by decide +kernel) (by decide +kernel)
set_option maxRecDepth 20000 in
theorem gL_law_X4_wipe : GoodIn wsL_law (wsV RL 125 RX4 yX4_wipe wsX4_wipe) := goodIn_app (goodIn_of _ (by decide +kernel)) ggL_law_X4_wipe
set_option maxRecDepth 20000 in
theorem ggL_law_X5_wipe : GoodIn wsL_law wsX5_wipe := goodIn_r _ [613, 605, 939, 940, 941, 942, 943, 944, 945, 946, 947, 948, 949, 950, 951, 952, 953] (by decide +kernel) (by decide +kernel)
set_option maxRecDepth 20000 in
theorem gL_law_X5_wipe : GoodIn wsL_law (wsV RL 128 RX5 yX5_wipe wsX5_wipe) := goodIn_app (goodIn_of _ (by decide +kernel)) ggL_law_X5_wipe
set_option maxRecDepth 20000 in
theorem ggL_law_X4_green : GoodIn wsL_law wsX4_green := goodIn_r _ [617, 17, 16, 22, 599, 440, 441, 442, 15, 443, 109, 119, 32, 251, 401, 133, 33, 444, 445, 446, 447, 34, 35, 36, 128, 37, 38, 39, 618, 619, 620, 21, 621, 622, 623, 624, 625, 626, 627, 628, 629, 630, 631, 398, 395, 399, 632, 633, 634, 635, 43, 636, 637, 638, 639, 640, 641, 642, 643, 644, 645, 646, 647, 648, 649, 650, 651, 652, 653, 654, 655, 656, 657, 658, 659, 660, 661, 662, 663, 664, 665, 666, 667, 668, 669, 670, 671, 672, 673, 674, 675, 676, 677, 678, 679, 680, 681, 682, 683, 684, 685, 686, 687, 688, 689, 690, 691, 692, 693, 694, 695, 696, 697, 698, 699, 700, 701, 702, 703, 704, 705, 706, 707, 708, 709, 217, 218, 219, 710, 711, 712, 713, 714, 715, 328, 329, 330, 716, 717, 718, 719, 720, 721, 722, 723, 724, 725, 726, 727, 728, 729, 932, 933, 934, 935, 936, 937, 938, 968, 969, 970, 971, 972, 973, 954, 955, 956, 957, 958, 959, 960, 961, 962, 963, 964, 965, 966, 967] (by decide +kernel) (by decide +kernel)
set_option maxRecDepth 20000 in
theorem gL_law_X4_green : GoodIn wsL_law (wsV RL 129 RX4 yX4_green wsX4_green) := goodIn_app (goodIn_of _ (by decide +kernel)) ggL_law_X4_green
set_option maxRecDepth 20000 in
theorem ggL_law_X5_green : GoodIn wsL_law wsX5_green := goodIn_r _ [733, 734, 735, 736, 605, 737, 452, 453, 454, 5, 455, 55, 57, 456, 457, 458, 738, 739, 740, 741, 742, 59, 743, 744, 745, 746, 79, 80, 81, 747, 748, 749, 750, 751, 752, 753, 754, 755, 756, 757, 758, 759, 760, 761, 762, 763, 764, 765, 766, 767, 768, 769, 770, 771, 772, 773, 774, 775, 225, 226, 227, 228, 229, 230, 231, 232, 776, 777, 778, 779, 335, 336, 337, 338, 339, 340, 341, 342, 780, 781, 782, 783, 459, 460, 461, 462, 939, 940, 941, 942, 943, 944, 945, 946, 947, 948, 949, 950, 951, 952, 953] (by decide +kernel) (by decide +kernel)
set_option maxRecDepth 20000 in
theorem gL_law_X5_green : GoodIn wsL_law (wsV RL 132 RX5 yX5_green wsX5_green) := goodIn_app (goodIn_of _ (by decide +kernel)) ggL_law_X5_green
set_option maxRecDepth 20000 in
theorem ggL_law_X4_sheet : GoodIn wsL_law wsX4_sheet := goodIn_r _ [787, 26, 69, 788, 789, 790, 791, 25, 792, 70, 71, 72, 2, 73, 28, 793, 794, 795, 796, 47, 48, 50, 932, 933, 934, 935, 936, 937, 938, 974, 975, 976] (by decide +kernel) (by decide +kernel)
set_option maxRecDepth 20000 in
theorem gL_law_X4_sheet : GoodIn wsL_law (wsV RL 133 RX4 yX4_sheet wsX4_sheet) := goodIn_app (goodIn_of _ (by decide +kernel)) ggL_law_X4_sheet
set_option maxRecDepth 20000 in
theorem ggL_law_X5_sheet : GoodIn wsL_law wsX5_sheet := goodIn_r _ [800, 78, 801, 60, 61, 62, 802, 803, 5, 804, 79, 80, 81, 86, 87, 88, 89, 58, 939, 940, 941, 942, 943, 944, 945, 946, 947, 948, 949, 950, 951, 952, 953] (by decide +kernel) (by decide +kernel)
set_option maxRecDepth 20000 in
theorem gL_law_X5_sheet : GoodIn wsL_law (wsV RL 136 RX5 yX5_sheet wsX5_sheet) := goodIn_app (goodIn_of _ (by decide +kernel)) ggL_law_X5_sheet
set_option maxRecDepth 20000 in
theorem ggL_law_X4_write : GoodIn wsL_law wsX4_write := goodIn_r _ [808, 26, 69, 809, 810, 789, 790, 791, 25, 792, 70, 71, 72, 2, 73, 28, 811, 812, 813, 814, 47, 815, 816, 817, 818, 50, 819, 820, 821, 822, 932, 933, 934, 935, 936, 937, 938, 974, 975, 976] (by decide +kernel) (by decide +kernel)
set_option maxRecDepth 20000 in
theorem gL_law_X4_write : GoodIn wsL_law (wsV RL 139 RX4 yX4_write wsX4_write) := goodIn_app (goodIn_of _ (by decide +kernel)) ggL_law_X4_write
set_option maxRecDepth 20000 in
theorem ggL_law_X5_write : GoodIn wsL_law wsX5_write := goodIn_r _ [826, 61, 78, 62, 60, 827, 828, 829, 5, 830, 831, 802, 803, 804, 79, 80, 81, 86, 87, 88, 89, 58, 832, 833, 834, 939, 940, 941, 942, 943, 944, 945, 946, 947, 948, 949, 950, 951, 952, 953] (by decide +kernel) (by decide +kernel)
set_option maxRecDepth 20000 in
theorem gL_law_X5_write : GoodIn wsL_law (wsV RL 143 RX5 yX5_write wsX5_write) := goodIn_app (goodIn_of _ (by decide +kernel)) ggL_law_X5_write
set_option maxRecDepth 20000 in
theorem ggL_law_X4_copy : GoodIn wsL_law wsX4_copy := goodIn_r _ [838, 26, 69, 809, 839, 310, 789, 790, 791, 25, 792, 70, 71, 72, 2, 73, 28, 811, 812, 813, 814, 47, 840, 841, 842, 843, 48, 844, 845, 846, 847, 50, 848, 445, 446, 447, 932, 933, 934, 935, 936, 937, 938, 974, 975, 976] (by decide +kernel) (by decide +kernel)
set_option maxRecDepth 20000 in
theorem gL_law_X4_copy : GoodIn wsL_law (wsV RL 144 RX4 yX4_copy wsX4_copy) := goodIn_app (goodIn_of _ (by decide +kernel)) ggL_law_X4_copy
set_option maxRecDepth 20000 in
theorem ggL_law_X5_copy : GoodIn wsL_law wsX5_copy := goodIn_r _ [852, 62, 853, 854, 855, 5, 856, 78, 60, 831, 321, 61, 802, 803, 804, 79, 80, 81, 86, 87, 88, 89, 58, 939, 940, 941, 942, 943, 944, 945, 946, 947, 948, 949, 950, 951, 952, 953] (by decide +kernel) (by decide +kernel)
set_option maxRecDepth 20000 in
theorem gL_law_X5_copy : GoodIn wsL_law (wsV RL 148 RX5 yX5_copy wsX5_copy) := goodIn_app (goodIn_of _ (by decide +kernel)) ggL_law_X5_copy
set_option maxRecDepth 20000 in
theorem ggL_law_X4_lays : GoodIn wsL_law wsX4_lays := goodIn_r _ [860, 26, 69, 809, 810, 16, 211, 861, 239, 789, 790, 791, 25, 792, 70, 71, 72, 2, 73, 28, 811, 812, 813, 814, 47, 815, 816, 817, 818, 50, 932, 933, 934, 935, 936, 937, 938, 974, 975, 976, 954, 955, 956, 957, 958, 959, 960, 961, 962, 963, 964, 965, 966, 967] (by decide +kernel) (by decide +kernel)
set_option maxRecDepth 20000 in
theorem gL_law_X4_lays : GoodIn wsL_law (wsV RL 149 RX4 yX4_lays wsX4_lays) := goodIn_app (goodIn_of _ (by decide +kernel)) ggL_law_X4_lays
set_option maxRecDepth 20000 in
theorem ggL_law_X5_lays : GoodIn wsL_law wsX5_lays := goodIn_r _ [865, 61, 55, 62, 827, 828, 829, 5, 830, 78, 60, 831, 802, 803, 804, 79, 80, 81, 86, 87, 88, 89, 58, 229, 230, 231, 232, 939, 940, 941, 942, 943, 944, 945, 946, 947, 948, 949, 950, 951, 952, 953] (by decide +kernel) (by decide +kernel)
set_option maxRecDepth 20000 in
theorem gL_law_X5_lays : GoodIn wsL_law (wsV RL 152 RX5 yX5_lays wsX5_lays) := goodIn_app (goodIn_of _ (by decide +kernel)) ggL_law_X5_lays
set_option maxRecDepth 20000 in
theorem ggL_law_X4_book : GoodIn wsL_law wsX4_book := goodIn_r _ [869, 26, 69, 809, 17, 16, 810, 68, 789, 790, 791, 25, 792, 70, 71, 72, 2, 73, 28, 811, 812, 813, 814, 47, 440, 441, 442, 15, 443, 109, 119, 32, 251, 401, 133, 33, 444, 445, 446, 447, 34, 35, 36, 128, 37, 38, 39, 819, 820, 821, 822, 50, 476, 390, 391, 392, 393, 394, 395, 396, 397, 398, 399, 400, 402, 130, 131, 132, 134, 116, 117, 118, 114, 106, 107, 108, 135, 136, 137, 138, 139, 111, 112, 113, 140, 141, 142, 143, 144, 145, 146, 147, 403, 121, 122, 123, 124, 125, 126, 127, 404, 405, 406, 407, 408, 409, 410, 411, 412, 248, 249, 250, 252, 253, 254, 413, 256, 257, 932, 933, 934, 935, 936, 937, 938, 974, 975, 976, 954, 955, 956, 957, 958, 959, 960, 961, 962, 963, 964, 965, 966, 967] (by decide +kernel) (by decide +kernel)
set_option maxRecDepth 20000 in
theorem gL_law_X4_book : GoodIn wsL_law (wsV RL 153 RX4 yX4_book wsX4_book) := goodIn_app (goodIn_of _ (by decide +kernel)) ggL_law_X4_book
set_option maxRecDepth 20000 in
theorem ggL_law_X5_book : GoodIn wsL_law wsX5_book := goodIn_r _ [873, 61, 62, 60, 55, 827, 828, 829, 5, 830, 78, 831, 802, 803, 804, 79, 80, 81, 86, 87, 88, 89, 58, 452, 453, 454, 455, 57, 456, 457, 458, 832, 833, 834, 424, 425, 426, 427, 428, 187, 188, 189, 190, 191, 192, 193, 194, 195, 196, 197, 198, 199, 200, 201, 202, 203, 204, 205, 206, 184, 185, 186, 164, 165, 166, 167, 160, 161, 162, 163, 168, 169, 170, 171, 172, 173, 174, 175, 176, 177, 178, 179, 180, 181, 182, 183, 429, 430, 431, 432, 433, 434, 435, 339, 340, 341, 342, 266, 267, 268, 269, 270, 271, 272, 273, 229, 230, 231, 232, 459, 460, 461, 462, 939, 940, 941, 942, 943, 944, 945, 946, 947, 948, 949, 950, 951, 952, 953] (by decide +kernel) (by decide +kernel)
set_option maxRecDepth 20000 in
theorem gL_law_X5_book : GoodIn wsL_law (wsV RL 156 RX5 yX5_book wsX5_book) := goodIn_app (goodIn_of _ (by decide +kernel)) ggL_law_X5_book
set_option maxRecDepth 20000 in
theorem ggL_law_X4_read : GoodIn wsL_law wsX4_read := goodIn_r _ [877, 26, 69, 809, 16, 238, 789, 790, 791, 25, 792, 70, 71, 72, 2, 73, 28, 811, 812, 813, 814, 47, 241, 242, 243, 15, 244, 133, 878, 879, 880, 881, 17, 237, 239, 810, 68, 440, 441, 442, 443, 109, 119, 32, 251, 401, 33, 444, 445, 446, 447, 34, 35, 36, 128, 37, 38, 39, 476, 390, 391, 392, 393, 394, 395, 396, 397, 398, 399, 400, 402, 130, 131, 132, 134, 116, 117, 118, 114, 106, 107, 108, 135, 136, 137, 138, 139, 111, 112, 113, 140, 141, 142, 143, 144, 145, 146, 147, 403, 121, 122, 123, 124, 125, 126, 127, 404, 405, 406, 407, 408, 409, 410, 411, 412, 248, 249, 250, 252, 253, 254, 413, 256, 257, 815, 816, 817, 818, 50, 932, 933, 934, 935, 936, 937, 938, 954, 955, 956, 957, 958, 959, 960, 961, 962, 963, 964, 965, 966, 967, 974, 975, 976] (by decide +kernel) (by decide +kernel)
set_option maxRecDepth 20000 in
theorem gL_law_X4_read : GoodIn wsL_law (wsV RL 157 RX4 yX4_read wsX4_read) := goodIn_app (goodIn_of _ (by decide +kernel)) ggL_law_X4_read
set_option maxRecDepth 20000 in
theorem ggL_law_X5_read : GoodIn wsL_law wsX5_read := goodIn_r _ [885, 78, 827, 828, 829, 5, 830, 60, 831, 802, 803, 804, 79, 80, 81, 262, 263, 264, 265, 55, 86, 87, 88, 89, 58, 452, 453, 454, 455, 57, 456, 457, 458, 229, 230, 231, 232, 886, 887, 888, 889, 61, 62, 424, 425, 426, 427, 428, 187, 188, 189, 190, 191, 192, 193, 194, 195, 196, 197, 198, 199, 200, 201, 202, 203, 204, 205, 206, 184, 185, 186, 164, 165, 166, 167, 160, 161, 162, 163, 168, 169, 170, 171, 172, 173, 174, 175, 176, 177, 178, 179, 180, 181, 182, 183, 429, 430, 431, 432, 433, 434, 435, 339, 340, 341, 342, 266, 267, 268, 269, 270, 271, 272, 273, 459, 460, 461, 462, 939, 940, 941, 942, 943, 944, 945, 946, 947, 948, 949, 950, 951, 952, 953] (by decide +kernel) (by decide +kernel)
set_option maxRecDepth 20000 in
theorem gL_law_X5_read : GoodIn wsL_law (wsV RL 160 RX5 yX5_read wsX5_read) := goodIn_app (goodIn_of _ (by decide +kernel)) ggL_law_X5_read
set_option maxRecDepth 20000 in
theorem ggL_law_X4_image : GoodIn wsL_law wsX4_image := goodIn_r _ [893, 18, 16, 894, 440, 441, 442, 15, 443, 109, 119, 32, 251, 401, 133, 33, 444, 445, 446, 447, 34, 35, 36, 128, 37, 38, 39, 932, 933, 934, 935, 936, 937, 938, 954, 955, 956, 957, 958, 959, 960, 961, 962, 963, 964, 965, 966, 967] (by decide +kernel) (by decide +kernel)
set_option maxRecDepth 20000 in
theorem gL_law_X4_image : GoodIn wsL_law (wsV RL 161 RX4 yX4_image wsX4_image) := goodIn_app (goodIn_of _ (by decide +kernel)) ggL_law_X4_image
set_option maxRecDepth 20000 in
theorem ggL_law_X5_image : GoodIn wsL_law wsX5_image := goodIn_r _ [898, 55, 56, 899, 456, 457, 5, 458, 939, 940, 941, 942, 943, 944, 945, 946, 947, 948, 949, 950, 951, 952, 953] (by decide +kernel) (by decide +kernel)
set_option maxRecDepth 20000 in
theorem gL_law_X5_image : GoodIn wsL_law (wsV RL 164 RX5 yX5_image wsX5_image) := goodIn_app (goodIn_of _ (by decide +kernel)) ggL_law_X5_image
set_option maxRecDepth 20000 in
theorem ggL_law_X4_undo : GoodIn wsL_law wsX4_undo := goodIn_r _ [903, 894, 475, 16, 18, 211, 70, 71, 72, 2, 73, 69, 28, 440, 441, 442, 15, 443, 109, 119, 32, 251, 401, 133, 33, 444, 445, 446, 447, 34, 35, 36, 128, 37, 38, 39, 932, 933, 934, 935, 936, 937, 938, 954, 955, 956, 957, 958, 959, 960, 961, 962, 963, 964, 965, 966, 967] (by decide +kernel) (by decide +kernel)
set_option maxRecDepth 20000 in
theorem gL_law_X4_undo : GoodIn wsL_law (wsV RL 165 RX4 yX4_undo wsX4_undo) := goodIn_app (goodIn_of _ (by decide +kernel)) ggL_law_X4_undo
set_option maxRecDepth 20000 in
theorem ggL_law_X5_undo : GoodIn wsL_law wsX5_undo := goodIn_r _ [907, 899, 481, 56, 55, 86, 87, 88, 5, 89, 58, 78, 456, 457, 458, 939, 940, 941, 942, 943, 944, 945, 946, 947, 948, 949, 950, 951, 952, 953] (by decide +kernel) (by decide +kernel)
set_option maxRecDepth 20000 in
theorem gL_law_X5_undo : GoodIn wsL_law (wsV RL 168 RX5 yX5_undo wsX5_undo) := goodIn_app (goodIn_of _ (by decide +kernel)) ggL_law_X5_undo
set_option maxRecDepth 20000 in
theorem ggL_law_X4_tear : GoodIn wsL_law wsX4_tear := goodIn_r _ [911, 894, 932, 933, 934, 935, 936, 937, 938] (by decide +kernel) (by decide +kernel)
set_option maxRecDepth 20000 in
theorem gL_law_X4_tear : GoodIn wsL_law (wsV RL 169 RX4 yX4_tear wsX4_tear) := goodIn_app (goodIn_of _ (by decide +kernel)) ggL_law_X4_tear
set_option maxRecDepth 20000 in
theorem ggL_law_X5_tear : GoodIn wsL_law wsX5_tear := goodIn_r _ [915, 899, 939, 940, 941, 942, 943, 944, 945, 946, 947, 948, 949, 950, 951, 952, 953] (by decide +kernel) (by decide +kernel)
set_option maxRecDepth 20000 in
theorem gL_law_X5_tear : GoodIn wsL_law (wsV RL 172 RX5 yX5_tear wsX5_tear) := goodIn_app (goodIn_of _ (by decide +kernel)) ggL_law_X5_tear
set_option maxRecDepth 20000 in
theorem ggL_law_X4_count : GoodIn wsL_law wsX4_count := goodIn_r _ [919, 16, 211, 326, 22, 599, 69, 541, 542, 543, 15, 544, 128, 39, 70, 71, 72, 2, 73, 28, 932, 933, 934, 935, 936, 937, 938, 954, 955, 956, 957, 958, 959, 960, 961, 962, 963, 964, 965, 966, 967, 968, 969, 970, 971, 972, 973] (by decide +kernel) (by decide +kernel)
set_option maxRecDepth 20000 in
theorem gL_law_X4_count : GoodIn wsL_law (wsV RL 173 RX4 yX4_count wsX4_count) := goodIn_app (goodIn_of _ (by decide +kernel)) ggL_law_X4_count
set_option maxRecDepth 20000 in
theorem ggL_law_X5_count : GoodIn wsL_law wsX5_count := goodIn_r _ [923, 55, 605, 78, 549, 550, 551, 5, 552, 180, 181, 182, 183, 86, 87, 88, 89, 58, 939, 940, 941, 942, 943, 944, 945, 946, 947, 948, 949, 950, 951, 952, 953] (by decide +kernel) (by decide +kernel)
set_option maxRecDepth 20000 in
theorem gL_law_X5_count : GoodIn wsL_law (wsV RL 176 RX5 yX5_count wsX5_count) := goodIn_app (goodIn_of _ (by decide +kernel)) ggL_law_X5_count
set_option maxRecDepth 20000 in
theorem ggL_law_X4_status : GoodIn wsL_law wsX4_status := goodIn_r _ [927, 69, 28, 70, 71, 72, 2, 73, 932, 933, 934, 935, 936, 937, 938] (by decide +kernel) (by decide +kernel)
set_option maxRecDepth 20000 in
theorem gL_law_X4_status : GoodIn wsL_law (wsV RL 177 RX4 yX4_status wsX4_status) := goodIn_app (goodIn_of _ (by decide +kernel)) ggL_law_X4_status
set_option maxRecDepth 20000 in
theorem ggL_law_X5_status : GoodIn wsL_law wsX5_status := goodIn_r _ [931, 78, 58, 79, 80, 5, 81, 86, 87, 88, 89, 939, 940, 941, 942, 943, 944, 945, 946, 947, 948, 949, 950, 951, 952, 953] (by decide +kernel) (by decide +kernel)
set_option maxRecDepth 20000 in
theorem gL_law_X5_status : GoodIn wsL_law (wsV RL 180 RX5 yX5_status wsX5_status) := goodIn_app (goodIn_of _ (by decide +kernel)) ggL_law_X5_status
theorem dL_law_0 : decode cL_law 0 = .ok (.new 7, 3) := by decide +kernel
theorem dL_law_3 : decode cL_law 3 = .ok (.dup, 1) := by decide +kernel
theorem dL_law_4 : decode cL_law 4 = .ok (.invokespecial 9, 3) := by decide +kernel
theorem dL_law_7 : decode cL_law 7 = .ok (.astore_n 1, 1) := by decide +kernel
theorem dL_law_8 : decode cL_law 8 = .ok (.new 10, 3) := by decide +kernel
theorem dL_law_11 : decode cL_law 11 = .ok (.dup, 1) := by decide +kernel
theorem dL_law_12 : decode cL_law 12 = .ok (.invokespecial 12, 3) := by decide +kernel
theorem dL_law_15 : decode cL_law 15 = .ok (.astore_n 2, 1) := by decide +kernel
theorem dL_law_16 : decode cL_law 16 = .ok (.iconst 0, 1) := by decide +kernel
theorem dL_law_17 : decode cL_law 17 = .ok (.istore_n 3, 1) := by decide +kernel
theorem dL_law_18 : decode cL_law 18 = .ok (.iload_n 3, 1) := by decide +kernel
theorem dL_law_19 : decode cL_law 19 = .ok (.aload_n 0, 1) := by decide +kernel
theorem dL_law_20 : decode cL_law 20 = .ok (.arraylength, 1) := by decide +kernel
theorem dL_law_21 : decode cL_law 21 = .ok (.bipush 6, 2) := by decide +kernel
theorem dL_law_23 : decode cL_law 23 = .ok (.isub, 1) := by decide +kernel
theorem dL_law_24 : decode cL_law 24 = .ok (.if_icmp .gt 1331, 3) := by decide +kernel
theorem dL_law_27 : decode cL_law 27 = .ok (.aload_n 0, 1) := by decide +kernel
theorem dL_law_28 : decode cL_law 28 = .ok (.iload_n 3, 1) := by decide +kernel
theorem dL_law_29 : decode cL_law 29 = .ok (.iaload, 1) := by decide +kernel
theorem dL_law_30 : decode cL_law 30 = .ok (.bipush 63, 2) := by decide +kernel
theorem dL_law_32 : decode cL_law 32 = .ok (.iand, 1) := by decide +kernel
theorem dL_law_33 : decode cL_law 33 = .ok (.tableswitch 1316 0 39 #[175, 208, 231, 254, 277, 310, 353, 386, 419, 452, 475, 508, 541, 574, 597, 630, 673, 696, 709, 732, 755, 788, 821, 844, 867, 890, 913, 946, 959, 972, 1015, 1089, 1152, 1175, 1198, 1231, 1244, 1257, 1270, 1293], 175) := by decide +kernel
theorem dL_law_208 : decode cL_law 208 = .ok (.aload_n 1, 1) := by decide +kernel
theorem dL_law_209 : decode cL_law 209 = .ok (.aload_n 0, 1) := by decide +kernel
theorem dL_law_210 : decode cL_law 210 = .ok (.iload_n 3, 1) := by decide +kernel
theorem dL_law_211 : decode cL_law 211 = .ok (.iconst 1, 1) := by decide +kernel
theorem dL_law_212 : decode cL_law 212 = .ok (.iadd, 1) := by decide +kernel
theorem dL_law_213 : decode cL_law 213 = .ok (.iaload, 1) := by decide +kernel
theorem dL_law_214 : decode cL_law 214 = .ok (.aload_n 0, 1) := by decide +kernel
theorem dL_law_215 : decode cL_law 215 = .ok (.iload_n 3, 1) := by decide +kernel
theorem dL_law_216 : decode cL_law 216 = .ok (.iconst 2, 1) := by decide +kernel
theorem dL_law_217 : decode cL_law 217 = .ok (.iadd, 1) := by decide +kernel
theorem dL_law_218 : decode cL_law 218 = .ok (.iaload, 1) := by decide +kernel
theorem dL_law_219 : decode cL_law 219 = .ok (.invokevirtual 13, 3) := by decide +kernel
theorem dL_law_222 : decode cL_law 222 = .ok (.aload_n 2, 1) := by decide +kernel
theorem dL_law_223 : decode cL_law 223 = .ok (.aload_n 0, 1) := by decide +kernel
theorem dL_law_224 : decode cL_law 224 = .ok (.iload_n 3, 1) := by decide +kernel
theorem dL_law_225 : decode cL_law 225 = .ok (.iconst 1, 1) := by decide +kernel
theorem dL_law_226 : decode cL_law 226 = .ok (.iadd, 1) := by decide +kernel
theorem dL_law_227 : decode cL_law 227 = .ok (.iaload, 1) := by decide +kernel
theorem dL_law_228 : decode cL_law 228 = .ok (.aload_n 0, 1) := by decide +kernel
theorem dL_law_229 : decode cL_law 229 = .ok (.iload_n 3, 1) := by decide +kernel
theorem dL_law_230 : decode cL_law 230 = .ok (.iconst 2, 1) := by decide +kernel
theorem dL_law_231 : decode cL_law 231 = .ok (.iadd, 1) := by decide +kernel
theorem dL_law_232 : decode cL_law 232 = .ok (.iaload, 1) := by decide +kernel
theorem dL_law_233 : decode cL_law 233 = .ok (.invokevirtual 17, 3) := by decide +kernel
theorem dL_law_236 : decode cL_law 236 = .ok (.if_icmp .eq 1113, 3) := by decide +kernel
theorem dL_law_239 : decode cL_law 239 = .ok (.iconst 0, 1) := by decide +kernel
theorem dL_law_240 : decode cL_law 240 = .ok (.ireturn, 1) := by decide +kernel
theorem dL_law_241 : decode cL_law 241 = .ok (.aload_n 1, 1) := by decide +kernel
theorem dL_law_242 : decode cL_law 242 = .ok (.aload_n 0, 1) := by decide +kernel
theorem dL_law_243 : decode cL_law 243 = .ok (.iload_n 3, 1) := by decide +kernel
theorem dL_law_244 : decode cL_law 244 = .ok (.iconst 1, 1) := by decide +kernel
theorem dL_law_245 : decode cL_law 245 = .ok (.iadd, 1) := by decide +kernel
theorem dL_law_246 : decode cL_law 246 = .ok (.iaload, 1) := by decide +kernel
theorem dL_law_247 : decode cL_law 247 = .ok (.invokevirtual 18, 3) := by decide +kernel
theorem dL_law_250 : decode cL_law 250 = .ok (.aload_n 2, 1) := by decide +kernel
theorem dL_law_251 : decode cL_law 251 = .ok (.aload_n 0, 1) := by decide +kernel
theorem dL_law_252 : decode cL_law 252 = .ok (.iload_n 3, 1) := by decide +kernel
theorem dL_law_253 : decode cL_law 253 = .ok (.iconst 1, 1) := by decide +kernel
theorem dL_law_254 : decode cL_law 254 = .ok (.iadd, 1) := by decide +kernel
theorem dL_law_255 : decode cL_law 255 = .ok (.iaload, 1) := by decide +kernel
theorem dL_law_256 : decode cL_law 256 = .ok (.invokevirtual 22, 3) := by decide +kernel
theorem dL_law_259 : decode cL_law 259 = .ok (.if_icmp .eq 1090, 3) := by decide +kernel
theorem dL_law_262 : decode cL_law 262 = .ok (.iconst 0, 1) := by decide +kernel
theorem dL_law_263 : decode cL_law 263 = .ok (.ireturn, 1) := by decide +kernel
theorem dL_law_264 : decode cL_law 264 = .ok (.aload_n 1, 1) := by decide +kernel
theorem dL_law_265 : decode cL_law 265 = .ok (.aload_n 0, 1) := by decide +kernel
theorem dL_law_266 : decode cL_law 266 = .ok (.iload_n 3, 1) := by decide +kernel
theorem dL_law_267 : decode cL_law 267 = .ok (.iconst 1, 1) := by decide +kernel
theorem dL_law_268 : decode cL_law 268 = .ok (.iadd, 1) := by decide +kernel
theorem dL_law_269 : decode cL_law 269 = .ok (.iaload, 1) := by decide +kernel
theorem dL_law_270 : decode cL_law 270 = .ok (.invokevirtual 23, 3) := by decide +kernel
theorem dL_law_273 : decode cL_law 273 = .ok (.aload_n 2, 1) := by decide +kernel
theorem dL_law_274 : decode cL_law 274 = .ok (.aload_n 0, 1) := by decide +kernel
theorem dL_law_275 : decode cL_law 275 = .ok (.iload_n 3, 1) := by decide +kernel
theorem dL_law_276 : decode cL_law 276 = .ok (.iconst 1, 1) := by decide +kernel
theorem dL_law_277 : decode cL_law 277 = .ok (.iadd, 1) := by decide +kernel
theorem dL_law_278 : decode cL_law 278 = .ok (.iaload, 1) := by decide +kernel
theorem dL_law_279 : decode cL_law 279 = .ok (.invokevirtual 26, 3) := by decide +kernel
theorem dL_law_282 : decode cL_law 282 = .ok (.if_icmp .eq 1067, 3) := by decide +kernel
theorem dL_law_285 : decode cL_law 285 = .ok (.iconst 0, 1) := by decide +kernel
theorem dL_law_286 : decode cL_law 286 = .ok (.ireturn, 1) := by decide +kernel
theorem dL_law_287 : decode cL_law 287 = .ok (.aload_n 1, 1) := by decide +kernel
theorem dL_law_288 : decode cL_law 288 = .ok (.aload_n 0, 1) := by decide +kernel
theorem dL_law_289 : decode cL_law 289 = .ok (.iload_n 3, 1) := by decide +kernel
theorem dL_law_290 : decode cL_law 290 = .ok (.iconst 1, 1) := by decide +kernel
theorem dL_law_291 : decode cL_law 291 = .ok (.iadd, 1) := by decide +kernel
theorem dL_law_292 : decode cL_law 292 = .ok (.iaload, 1) := by decide +kernel
theorem dL_law_293 : decode cL_law 293 = .ok (.invokevirtual 27, 3) := by decide +kernel
theorem dL_law_296 : decode cL_law 296 = .ok (.aload_n 2, 1) := by decide +kernel
theorem dL_law_297 : decode cL_law 297 = .ok (.aload_n 0, 1) := by decide +kernel
theorem dL_law_298 : decode cL_law 298 = .ok (.iload_n 3, 1) := by decide +kernel
theorem dL_law_299 : decode cL_law 299 = .ok (.iconst 1, 1) := by decide +kernel
theorem dL_law_300 : decode cL_law 300 = .ok (.iadd, 1) := by decide +kernel
theorem dL_law_301 : decode cL_law 301 = .ok (.iaload, 1) := by decide +kernel
theorem dL_law_302 : decode cL_law 302 = .ok (.invokevirtual 30, 3) := by decide +kernel
theorem dL_law_305 : decode cL_law 305 = .ok (.if_icmp .eq 1044, 3) := by decide +kernel
theorem dL_law_308 : decode cL_law 308 = .ok (.iconst 0, 1) := by decide +kernel
theorem dL_law_309 : decode cL_law 309 = .ok (.ireturn, 1) := by decide +kernel
theorem dL_law_310 : decode cL_law 310 = .ok (.aload_n 1, 1) := by decide +kernel
theorem dL_law_311 : decode cL_law 311 = .ok (.aload_n 0, 1) := by decide +kernel
theorem dL_law_312 : decode cL_law 312 = .ok (.iload_n 3, 1) := by decide +kernel
theorem dL_law_313 : decode cL_law 313 = .ok (.iconst 1, 1) := by decide +kernel
theorem dL_law_314 : decode cL_law 314 = .ok (.iadd, 1) := by decide +kernel
theorem dL_law_315 : decode cL_law 315 = .ok (.iaload, 1) := by decide +kernel
theorem dL_law_316 : decode cL_law 316 = .ok (.aload_n 0, 1) := by decide +kernel
theorem dL_law_317 : decode cL_law 317 = .ok (.iload_n 3, 1) := by decide +kernel
theorem dL_law_318 : decode cL_law 318 = .ok (.iconst 2, 1) := by decide +kernel
theorem dL_law_319 : decode cL_law 319 = .ok (.iadd, 1) := by decide +kernel
theorem dL_law_320 : decode cL_law 320 = .ok (.iaload, 1) := by decide +kernel
theorem dL_law_321 : decode cL_law 321 = .ok (.invokevirtual 31, 3) := by decide +kernel
theorem dL_law_324 : decode cL_law 324 = .ok (.aload_n 2, 1) := by decide +kernel
theorem dL_law_325 : decode cL_law 325 = .ok (.aload_n 0, 1) := by decide +kernel
theorem dL_law_326 : decode cL_law 326 = .ok (.iload_n 3, 1) := by decide +kernel
theorem dL_law_327 : decode cL_law 327 = .ok (.iconst 1, 1) := by decide +kernel
theorem dL_law_328 : decode cL_law 328 = .ok (.iadd, 1) := by decide +kernel
theorem dL_law_329 : decode cL_law 329 = .ok (.iaload, 1) := by decide +kernel
theorem dL_law_330 : decode cL_law 330 = .ok (.aload_n 0, 1) := by decide +kernel
theorem dL_law_331 : decode cL_law 331 = .ok (.iload_n 3, 1) := by decide +kernel
theorem dL_law_332 : decode cL_law 332 = .ok (.iconst 2, 1) := by decide +kernel
theorem dL_law_333 : decode cL_law 333 = .ok (.iadd, 1) := by decide +kernel
theorem dL_law_334 : decode cL_law 334 = .ok (.iaload, 1) := by decide +kernel
theorem dL_law_335 : decode cL_law 335 = .ok (.invokevirtual 34, 3) := by decide +kernel
theorem dL_law_338 : decode cL_law 338 = .ok (.if_icmp .eq 1011, 3) := by decide +kernel
theorem dL_law_341 : decode cL_law 341 = .ok (.iconst 0, 1) := by decide +kernel
theorem dL_law_342 : decode cL_law 342 = .ok (.ireturn, 1) := by decide +kernel
theorem dL_law_343 : decode cL_law 343 = .ok (.aload_n 1, 1) := by decide +kernel
theorem dL_law_344 : decode cL_law 344 = .ok (.aload_n 0, 1) := by decide +kernel
theorem dL_law_345 : decode cL_law 345 = .ok (.iload_n 3, 1) := by decide +kernel
theorem dL_law_346 : decode cL_law 346 = .ok (.iconst 1, 1) := by decide +kernel
theorem dL_law_347 : decode cL_law 347 = .ok (.iadd, 1) := by decide +kernel
theorem dL_law_348 : decode cL_law 348 = .ok (.iaload, 1) := by decide +kernel
theorem dL_law_349 : decode cL_law 349 = .ok (.aload_n 0, 1) := by decide +kernel
theorem dL_law_350 : decode cL_law 350 = .ok (.iload_n 3, 1) := by decide +kernel
theorem dL_law_351 : decode cL_law 351 = .ok (.iconst 2, 1) := by decide +kernel
theorem dL_law_352 : decode cL_law 352 = .ok (.iadd, 1) := by decide +kernel
theorem dL_law_353 : decode cL_law 353 = .ok (.iaload, 1) := by decide +kernel
theorem dL_law_354 : decode cL_law 354 = .ok (.aload_n 0, 1) := by decide +kernel
theorem dL_law_355 : decode cL_law 355 = .ok (.iload_n 3, 1) := by decide +kernel
theorem dL_law_356 : decode cL_law 356 = .ok (.iconst 3, 1) := by decide +kernel
theorem dL_law_357 : decode cL_law 357 = .ok (.iadd, 1) := by decide +kernel
theorem dL_law_358 : decode cL_law 358 = .ok (.iaload, 1) := by decide +kernel
theorem dL_law_359 : decode cL_law 359 = .ok (.invokevirtual 35, 3) := by decide +kernel
theorem dL_law_362 : decode cL_law 362 = .ok (.aload_n 2, 1) := by decide +kernel
theorem dL_law_363 : decode cL_law 363 = .ok (.aload_n 0, 1) := by decide +kernel
theorem dL_law_364 : decode cL_law 364 = .ok (.iload_n 3, 1) := by decide +kernel
theorem dL_law_365 : decode cL_law 365 = .ok (.iconst 1, 1) := by decide +kernel
theorem dL_law_366 : decode cL_law 366 = .ok (.iadd, 1) := by decide +kernel
theorem dL_law_367 : decode cL_law 367 = .ok (.iaload, 1) := by decide +kernel
theorem dL_law_368 : decode cL_law 368 = .ok (.aload_n 0, 1) := by decide +kernel
theorem dL_law_369 : decode cL_law 369 = .ok (.iload_n 3, 1) := by decide +kernel
theorem dL_law_370 : decode cL_law 370 = .ok (.iconst 2, 1) := by decide +kernel
theorem dL_law_371 : decode cL_law 371 = .ok (.iadd, 1) := by decide +kernel
theorem dL_law_372 : decode cL_law 372 = .ok (.iaload, 1) := by decide +kernel
theorem dL_law_373 : decode cL_law 373 = .ok (.aload_n 0, 1) := by decide +kernel
theorem dL_law_374 : decode cL_law 374 = .ok (.iload_n 3, 1) := by decide +kernel
theorem dL_law_375 : decode cL_law 375 = .ok (.iconst 3, 1) := by decide +kernel
theorem dL_law_376 : decode cL_law 376 = .ok (.iadd, 1) := by decide +kernel
theorem dL_law_377 : decode cL_law 377 = .ok (.iaload, 1) := by decide +kernel
theorem dL_law_378 : decode cL_law 378 = .ok (.invokevirtual 39, 3) := by decide +kernel
theorem dL_law_381 : decode cL_law 381 = .ok (.if_icmp .eq 968, 3) := by decide +kernel
theorem dL_law_384 : decode cL_law 384 = .ok (.iconst 0, 1) := by decide +kernel
theorem dL_law_385 : decode cL_law 385 = .ok (.ireturn, 1) := by decide +kernel
theorem dL_law_386 : decode cL_law 386 = .ok (.aload_n 1, 1) := by decide +kernel
theorem dL_law_387 : decode cL_law 387 = .ok (.aload_n 0, 1) := by decide +kernel
theorem dL_law_388 : decode cL_law 388 = .ok (.iload_n 3, 1) := by decide +kernel
theorem dL_law_389 : decode cL_law 389 = .ok (.iconst 1, 1) := by decide +kernel
theorem dL_law_390 : decode cL_law 390 = .ok (.iadd, 1) := by decide +kernel
theorem dL_law_391 : decode cL_law 391 = .ok (.iaload, 1) := by decide +kernel
theorem dL_law_392 : decode cL_law 392 = .ok (.aload_n 0, 1) := by decide +kernel
theorem dL_law_393 : decode cL_law 393 = .ok (.iload_n 3, 1) := by decide +kernel
theorem dL_law_394 : decode cL_law 394 = .ok (.iconst 2, 1) := by decide +kernel
theorem dL_law_395 : decode cL_law 395 = .ok (.iadd, 1) := by decide +kernel
theorem dL_law_396 : decode cL_law 396 = .ok (.iaload, 1) := by decide +kernel
theorem dL_law_397 : decode cL_law 397 = .ok (.invokevirtual 40, 3) := by decide +kernel
theorem dL_law_400 : decode cL_law 400 = .ok (.aload_n 2, 1) := by decide +kernel
theorem dL_law_401 : decode cL_law 401 = .ok (.aload_n 0, 1) := by decide +kernel
theorem dL_law_402 : decode cL_law 402 = .ok (.iload_n 3, 1) := by decide +kernel
theorem dL_law_403 : decode cL_law 403 = .ok (.iconst 1, 1) := by decide +kernel
theorem dL_law_404 : decode cL_law 404 = .ok (.iadd, 1) := by decide +kernel
theorem dL_law_405 : decode cL_law 405 = .ok (.iaload, 1) := by decide +kernel
theorem dL_law_406 : decode cL_law 406 = .ok (.aload_n 0, 1) := by decide +kernel
theorem dL_law_407 : decode cL_law 407 = .ok (.iload_n 3, 1) := by decide +kernel
theorem dL_law_408 : decode cL_law 408 = .ok (.iconst 2, 1) := by decide +kernel
theorem dL_law_409 : decode cL_law 409 = .ok (.iadd, 1) := by decide +kernel
theorem dL_law_410 : decode cL_law 410 = .ok (.iaload, 1) := by decide +kernel
theorem dL_law_411 : decode cL_law 411 = .ok (.invokevirtual 43, 3) := by decide +kernel
theorem dL_law_414 : decode cL_law 414 = .ok (.if_icmp .eq 935, 3) := by decide +kernel
theorem dL_law_417 : decode cL_law 417 = .ok (.iconst 0, 1) := by decide +kernel
theorem dL_law_418 : decode cL_law 418 = .ok (.ireturn, 1) := by decide +kernel
theorem dL_law_419 : decode cL_law 419 = .ok (.aload_n 1, 1) := by decide +kernel
theorem dL_law_420 : decode cL_law 420 = .ok (.aload_n 0, 1) := by decide +kernel
theorem dL_law_421 : decode cL_law 421 = .ok (.iload_n 3, 1) := by decide +kernel
theorem dL_law_422 : decode cL_law 422 = .ok (.iconst 1, 1) := by decide +kernel
theorem dL_law_423 : decode cL_law 423 = .ok (.iadd, 1) := by decide +kernel
theorem dL_law_424 : decode cL_law 424 = .ok (.iaload, 1) := by decide +kernel
theorem dL_law_425 : decode cL_law 425 = .ok (.aload_n 0, 1) := by decide +kernel
