set_option maxRecDepth 20000 in
theorem ggL_law_X8_init : GoodIn wsL_law wsX8_init := goodIn_r _ [8, 9, 10, 11, 12, 13, 14, 15, 16, 17, 18, 19, 20, 21, 22, 23, 24, 25, 26, 27, 28, 29, 30, 31, 32, 33, 34, 35, 36, 37, 38, 39, 40, 41, 42, 43, 44, 45, 46, 47, 48, 49, 50, 51, 52, 53, 54, 55, 56, 57, 58, 59, 60, 61, 62, 63, 64, 65, 66, 67, 68, 69, 70, 71, 72, 73, 74, 75, 76, 77, 78, 79, 80, 81, 82, 83, 84, 85, 86, 87, 88, 89, 90, 91, 92, 93, 94, 95, 96, 97, 98, 99, 100, 101, 102, 103, 104, 105, 106, 107, 108, 109, 110, 111, 1013, 1014, 1015, 1016, 1017, 1018, 1019, 1020, 1021, 1022, 1023, 1060, 1061, 1062, 1063, 1064, 1065, 1066, 1067, 1068, 1069, 1070, 1071, 1072, 1073, 1074, 1075, 1076, 1077, 1078, 1079, 1080, 1081, 1082, 1083, 1084, 1085, 1086, 1087, 1088, 1089, 1090, 1091, 1092, 1093] (by decide +kernel) (by decide +kernel)
set_option maxRecDepth 20000 in
theorem gL_law_X8_init : GoodIn wsL_law (wsX8_init) := ggL_law_X8_init
set_option maxRecDepth 20000 in
theorem ggL_law_X9_init : GoodIn wsL_law wsX9_init := goodIn_r _ [114, 115, 10, 11, 12, 116, 117, 83, 118, 119, 120, 121, 122, 123, 80, 124, 125, 126, 127, 128, 129, 130, 131, 132, 133, 134, 135, 136, 1024, 1025, 1026, 1027, 1028, 1029, 1030, 1031, 1032, 1033, 1034, 1035, 1036, 1037, 1038, 1039, 1040, 1041, 1042, 1043, 1044, 1045, 1046, 1047, 1048, 1049, 1050, 1051, 1052, 1053, 1054, 1055, 1056, 1057, 1058, 1059] (by decide +kernel) (by decide +kernel)
set_option maxRecDepth 20000 in
theorem gL_law_X9_init : GoodIn wsL_law (wsX9_init) := ggL_law_X9_init
set_option maxRecDepth 20000 in
theorem ggL_law_X8_term : GoodIn wsL_law wsX8_term := goodIn_r _ [140, 13, 141, 142, 2, 143, 144, 145, 146, 1013, 1014, 1015, 1016, 1017, 1018, 1019, 1020, 1021, 1022, 1023] (by decide +kernel) (by decide +kernel)
set_option maxRecDepth 20000 in
theorem gL_law_X8_term : GoodIn wsL_law (wsV RL 13 RX8 yX8_term wsX8_term) := goodIn_app (goodIn_of _ (by decide +kernel)) ggL_law_X8_term
set_option maxRecDepth 20000 in
theorem ggL_law_X9_term : GoodIn wsL_law wsX9_term := goodIn_r _ [150, 119, 151, 152, 5, 153, 154, 155, 156, 1024, 1025, 1026, 1027, 1028, 1029, 1030, 1031, 1032, 1033, 1034, 1035, 1036, 1037, 1038, 1039, 1040, 1041, 1042, 1043, 1044, 1045, 1046, 1047, 1048, 1049, 1050, 1051, 1052, 1053, 1054, 1055, 1056, 1057, 1058, 1059] (by decide +kernel) (by decide +kernel)
set_option maxRecDepth 20000 in
theorem gL_law_X9_term : GoodIn wsL_law (wsV RL 17 RX9 yX9_term wsX9_term) := goodIn_app (goodIn_of _ (by decide +kernel)) ggL_law_X9_term
set_option maxRecDepth 20000 in
theorem ggL_law_X8_add : GoodIn wsL_law wsX8_add := goodIn_r _ [160, 13, 41, 43, 44, 161, 162, 163, 164, 165, 166, 167, 168, 2, 169, 144, 145, 146, 170, 171, 172, 173, 174, 175, 176, 177, 178, 103, 104, 105, 106, 10, 11, 107, 108, 109, 110, 111, 179, 180, 181, 182, 26, 183, 184, 185, 25, 186, 67, 187, 188, 189, 190, 191, 35, 31, 192, 193, 194, 195, 196, 197, 198, 199, 200, 201, 202, 203, 204, 205, 206, 207, 208, 209, 34, 210, 211, 212, 213, 214, 215, 90, 91, 84, 216, 217, 218, 219, 81, 82, 85, 86, 220, 87, 88, 89, 221, 222, 223, 224, 225, 226, 227, 228, 229, 230, 231, 232, 233, 234, 235, 236, 237, 238, 239, 240, 241, 242, 243, 244, 93, 245, 246, 247, 248, 249, 92, 250, 251, 252, 253, 254, 255, 256, 257, 258, 259, 260, 261, 262, 263, 264, 265, 266, 267, 268, 269, 270, 271, 272, 273, 274, 275, 276, 277, 278, 279, 280, 281, 282, 283, 284, 285, 286, 287, 288, 289, 290, 291, 292, 293, 294, 295, 30, 296, 73, 72, 74, 297, 298, 299, 300, 1013, 1014, 1015, 1016, 1017, 1018, 1019, 1020, 1021, 1022, 1023, 1089, 1090, 1091, 1092, 1093, 1071, 1094, 1095, 1096, 1075, 1076, 1077, 1078, 1079, 1080, 1081, 1082, 1083, 1084, 1085, 1086, 1072, 1073, 1074] (by decide +kernel) (by decide +kernel)
set_option maxRecDepth 20000 in
theorem gL_law_X8_add : GoodIn wsL_law (wsV RL 18 RX8 yX8_add wsX8_add) := goodIn_app (goodIn_of _ (by decide +kernel)) ggL_law_X8_add
set_option maxRecDepth 20000 in
theorem ggL_law_X9_add : GoodIn wsL_law wsX9_add := goodIn_r _ [304, 119, 154, 155, 5, 156, 305, 306, 307, 308, 309, 310, 311, 312, 313, 314, 315, 316, 317, 318, 319, 320, 321, 322, 323, 324, 325, 116, 326, 327, 328, 329, 130, 330, 331, 332, 333, 334, 335, 336, 337, 338, 339, 340, 341, 342, 343, 344, 345, 136, 346, 347, 348, 349, 350, 351, 352, 353, 124, 127, 354, 355, 356, 126, 125, 357, 358, 359, 360, 361, 362, 363, 364, 365, 366, 367, 368, 369, 370, 371, 372, 373, 374, 375, 376, 377, 378, 379, 380, 381, 382, 383, 384, 385, 386, 387, 388, 389, 390, 391, 392, 393, 394, 395, 396, 397, 398, 399, 400, 401, 402, 403, 404, 405, 121, 122, 123, 406, 407, 408, 409, 410, 1024, 1025, 1026, 1027, 1028, 1029, 1030, 1031, 1032, 1033, 1034, 1035, 1036, 1037, 1038, 1039, 1040, 1041, 1042, 1043, 1044, 1045, 1046, 1047, 1048, 1049, 1050, 1051, 1052, 1053, 1054, 1055, 1056, 1057, 1058, 1059] (by decide +kernel) (by decide +kernel)
set_option maxRecDepth 20000 in
theorem gL_law_X9_add : GoodIn wsL_law (wsV RL 22 RX9 yX9_add wsX9_add) := goodIn_app (goodIn_of _ (by decide +kernel)) ggL_law_X9_add
set_option maxRecDepth 20000 in
theorem ggL_law_X8_remove : GoodIn wsL_law wsX8_remove := goodIn_r _ [414, 26, 195, 196, 197, 25, 198, 67, 187, 188, 189, 2, 190, 191, 35, 31, 192, 193, 194, 199, 200, 201, 202, 203, 204, 205, 206, 207, 208, 209, 34, 210, 211, 212, 213, 214, 215, 90, 91, 84, 216, 217, 218, 219, 81, 82, 85, 86, 220, 87, 88, 89, 221, 222, 223, 44, 224, 107, 225, 226, 227, 228, 229, 230, 231, 232, 108, 111, 233, 234, 235, 236, 237, 238, 239, 240, 241, 242, 243, 244, 93, 245, 246, 247, 248, 249, 92, 250, 251, 252, 253, 254, 255, 256, 257, 258, 259, 260, 261, 262, 263, 264, 265, 266, 267, 268, 269, 270, 271, 272, 273, 274, 275, 276, 277, 278, 279, 280, 281, 282, 283, 284, 285, 286, 287, 288, 289, 10, 11, 290, 291, 292, 293, 294, 295, 30, 296, 73, 72, 74, 415, 416, 417, 418, 419, 420, 421, 422, 423, 424, 425, 426, 427, 428, 429, 1013, 1014, 1015, 1016, 1017, 1018, 1019, 1020, 1021, 1022, 1023, 1071, 1089, 1090, 1091, 1092, 1093, 1094, 1095, 1096, 1075, 1076, 1077, 1078, 1079, 1080, 1081, 1082, 1083, 1084, 1085, 1086, 1072, 1073, 1074] (by decide +kernel) (by decide +kernel)
set_option maxRecDepth 20000 in
theorem gL_law_X8_remove : GoodIn wsL_law (wsV RL 23 RX8 yX8_remove wsX8_remove) := goodIn_app (goodIn_of _ (by decide +kernel)) ggL_law_X8_remove
set_option maxRecDepth 20000 in
theorem ggL_law_X9_remove : GoodIn wsL_law wsX9_remove := goodIn_r _ [433, 116, 434, 435, 436, 5, 437, 154, 155, 156, 322, 323, 324, 325, 326, 327, 328, 329, 130, 330, 331, 332, 333, 338, 339, 340, 341, 342, 343, 344, 345, 136, 346, 347, 348, 349, 350, 351, 352, 353, 124, 127, 354, 355, 356, 126, 125, 357, 358, 359, 360, 361, 362, 363, 364, 365, 366, 367, 368, 369, 370, 371, 372, 373, 374, 375, 376, 377, 378, 379, 380, 381, 382, 383, 384, 385, 386, 387, 388, 389, 390, 391, 392, 393, 394, 395, 396, 397, 398, 399, 400, 401, 402, 403, 404, 405, 121, 122, 123, 406, 407, 408, 409, 410, 318, 319, 320, 321, 1024, 1025, 1026, 1027, 1028, 1029, 1030, 1031, 1032, 1033, 1034, 1035, 1036, 1037, 1038, 1039, 1040, 1041, 1042, 1043, 1044, 1045, 1046, 1047, 1048, 1049, 1050, 1051, 1052, 1053, 1054, 1055, 1056, 1057, 1058, 1059] (by decide +kernel) (by decide +kernel)
set_option maxRecDepth 20000 in
theorem gL_law_X9_remove : GoodIn wsL_law (wsV RL 27 RX9 yX9_remove wsX9_remove) := goodIn_app (goodIn_of _ (by decide +kernel)) ggL_law_X9_remove
set_option maxRecDepth 20000 in
theorem ggL_law_X8_setConstant : GoodIn wsL_law wsX8_setConstant := goodIn_r _ [441, 26, 442, 195, 196, 197, 25, 198, 67, 144, 145, 2, 146, 443, 444, 445, 44, 446, 447, 43, 107, 108, 110, 111, 448, 104, 105, 106, 10, 11, 109, 187, 188, 189, 190, 191, 35, 31, 192, 193, 194, 199, 200, 201, 202, 203, 204, 205, 206, 207, 208, 209, 34, 210, 211, 212, 213, 214, 215, 90, 91, 84, 216, 217, 218, 219, 81, 82, 85, 86, 220, 87, 88, 89, 221, 222, 223, 224, 225, 226, 227, 228, 229, 230, 231, 232, 233, 234, 235, 236, 237, 238, 239, 240, 241, 242, 243, 244, 93, 245, 246, 247, 248, 249, 92, 250, 251, 252, 253, 254, 255, 256, 257, 258, 259, 260, 261, 262, 263, 264, 265, 266, 267, 268, 269, 270, 271, 272, 273, 274, 275, 276, 277, 278, 279, 280, 281, 282, 283, 284, 285, 286, 287, 288, 289, 290, 291, 292, 293, 294, 295, 30, 296, 73, 72, 74, 1013, 1014, 1015, 1016, 1017, 1018, 1019, 1020, 1021, 1022, 1023, 1089, 1090, 1091, 1092, 1093, 1071, 1094, 1095, 1096, 1075, 1076, 1077, 1078, 1079, 1080, 1081, 1082, 1083, 1084, 1085, 1086, 1072, 1073, 1074] (by decide +kernel) (by decide +kernel)
set_option maxRecDepth 20000 in
theorem gL_law_X8_setConstant : GoodIn wsL_law (wsV RL 28 RX8 yX8_setConstant wsX8_setConstant) := goodIn_app (goodIn_of _ (by decide +kernel)) ggL_law_X8_setConstant
set_option maxRecDepth 20000 in
theorem ggL_law_X9_setConstant : GoodIn wsL_law wsX9_setConstant := goodIn_r _ [452, 116, 434, 435, 436, 5, 437, 154, 155, 156, 322, 323, 324, 325, 305, 306, 307, 326, 327, 328, 329, 130, 330, 331, 332, 333, 338, 339, 340, 341, 342, 343, 344, 345, 136, 346, 347, 348, 349, 350, 351, 352, 353, 124, 127, 354, 355, 356, 126, 125, 357, 358, 359, 360, 361, 362, 363, 364, 365, 366, 367, 368, 369, 370, 371, 372, 373, 374, 375, 376, 377, 378, 379, 380, 381, 382, 383, 384, 385, 386, 387, 388, 389, 390, 391, 392, 393, 394, 395, 396, 397, 398, 399, 400, 401, 402, 403, 404, 405, 121, 122, 123, 406, 407, 408, 409, 410, 1024, 1025, 1026, 1027, 1028, 1029, 1030, 1031, 1032, 1033, 1034, 1035, 1036, 1037, 1038, 1039, 1040, 1041, 1042, 1043, 1044, 1045, 1046, 1047, 1048, 1049, 1050, 1051, 1052, 1053, 1054, 1055, 1056, 1057, 1058, 1059] (by decide +kernel) (by decide +kernel)
set_option maxRecDepth 20000 in
theorem gL_law_X9_setConstant : GoodIn wsL_law (wsV RL 31 RX9 yX9_setConstant wsX9_setConstant) := goodIn_app (goodIn_of _ (by decide +kernel)) ggL_law_X9_setConstant
set_option maxRecDepth 20000 in
theorem ggL_law_X8_setStrength : GoodIn wsL_law wsX8_setStrength := goodIn_r _ [456, 26, 191, 195, 196, 197, 25, 198, 67, 170, 171, 2, 172, 173, 174, 175, 457, 458, 459, 44, 460, 447, 43, 107, 108, 109, 448, 104, 105, 106, 10, 11, 110, 111, 187, 188, 189, 190, 35, 31, 192, 193, 194, 199, 200, 201, 202, 203, 204, 205, 206, 207, 208, 209, 34, 210, 211, 212, 213, 214, 215, 90, 91, 84, 216, 217, 218, 219, 81, 82, 85, 86, 220, 87, 88, 89, 221, 222, 223, 224, 225, 226, 227, 228, 229, 230, 231, 232, 233, 234, 235, 236, 237, 238, 239, 240, 241, 242, 243, 244, 93, 245, 246, 247, 248, 249, 92, 250, 251, 252, 253, 254, 255, 256, 257, 258, 259, 260, 261, 262, 263, 264, 265, 266, 267, 268, 269, 270, 271, 272, 273, 274, 275, 276, 277, 278, 279, 280, 281, 282, 283, 284, 285, 286, 287, 288, 289, 290, 291, 292, 293, 294, 295, 30, 296, 73, 72, 74, 1013, 1014, 1015, 1016, 1017, 1018, 1019, 1020, 1021, 1022, 1023, 1089, 1090, 1091, 1092, 1093, 1071, 1094, 1095, 1096, 1075, 1076, 1077, 1078, 1079, 1080, 1081, 1082, 1083, 1084, 1085, 1086, 1072, 1073, 1074] (by decide +kernel) (by decide +kernel)
set_option maxRecDepth 20000 in
theorem gL_law_X8_setStrength : GoodIn wsL_law (wsV RL 32 RX8 yX8_setStrength wsX8_setStrength) := goodIn_app (goodIn_of _ (by decide +kernel)) ggL_law_X8_setStrength
set_option maxRecDepth 20000 in
theorem ggL_law_X9_setStrength : GoodIn wsL_law wsX9_setStrength := goodIn_r _ [464, 116, 434, 435, 436, 5, 437, 154, 155, 156, 322, 323, 324, 325, 308, 309, 310, 326, 327, 328, 329, 130, 330, 331, 332, 333, 338, 339, 340, 341, 342, 343, 344, 345, 136, 346, 347, 348, 349, 350, 351, 352, 353, 124, 127, 354, 355, 356, 126, 125, 357, 358, 359, 360, 361, 362, 363, 364, 365, 366, 367, 368, 369, 370, 371, 372, 373, 374, 375, 376, 377, 378, 379, 380, 381, 382, 383, 384, 385, 386, 387, 388, 389, 390, 391, 392, 393, 394, 395, 396, 397, 398, 399, 400, 401, 402, 403, 404, 405, 121, 122, 123, 406, 407, 408, 409, 410, 1024, 1025, 1026, 1027, 1028, 1029, 1030, 1031, 1032, 1033, 1034, 1035, 1036, 1037, 1038, 1039, 1040, 1041, 1042, 1043, 1044, 1045, 1046, 1047, 1048, 1049, 1050, 1051, 1052, 1053, 1054, 1055, 1056, 1057, 1058, 1059] (by decide +kernel) (by decide +kernel)
set_option maxRecDepth 20000 in
theorem gL_law_X9_setStrength : GoodIn wsL_law (wsV RL 36 RX9 yX9_setStrength wsX9_setStrength) := goodIn_app (goodIn_of _ (by decide +kernel)) ggL_law_X9_setStrength
set_option maxRecDepth 20000 in
theorem ggL_law_X8_about : GoodIn wsL_law wsX8_about := goodIn_r _ [468, 26, 469, 442, 191, 470, 195, 196, 197, 25, 198, 67, 141, 142, 2, 143, 471, 222, 223, 44, 224, 107, 1013, 1014, 1015, 1016, 1017, 1018, 1019, 1020, 1021, 1022, 1023, 1089, 1090, 1091, 1092, 1093, 1071] (by decide +kernel) (by decide +kernel)
set_option maxRecDepth 20000 in
theorem gL_law_X8_about : GoodIn wsL_law (wsV RL 37 RX8 yX8_about wsX8_about) := goodIn_app (goodIn_of _ (by decide +kernel)) ggL_law_X8_about
set_option maxRecDepth 20000 in
theorem ggL_law_X9_about : GoodIn wsL_law wsX9_about := goodIn_r _ [475, 434, 435, 436, 5, 437, 154, 155, 156, 322, 323, 324, 325, 116, 1024, 1025, 1026, 1027, 1028, 1029, 1030, 1031, 1032, 1033, 1034, 1035, 1036, 1037, 1038, 1039, 1040, 1041, 1042, 1043, 1044, 1045, 1046, 1047, 1048, 1049, 1050, 1051, 1052, 1053, 1054, 1055, 1056, 1057, 1058, 1059] (by decide +kernel) (by decide +kernel)
set_option maxRecDepth 20000 in
theorem gL_law_X9_about : GoodIn wsL_law (wsV RL 40 RX9 yX9_about wsX9_about) := goodIn_app (goodIn_of _ (by decide +kernel)) ggL_law_X9_about
set_option maxRecDepth 20000 in
theorem ggL_law_X8_constraints : GoodIn wsL_law wsX8_constraints := goodIn_r _ [479, 26, 480, 420, 421, 25, 422, 67, 1013, 1014, 1015, 1016, 1017, 1018, 1019, 1020, 1021, 1022, 1023, 1071] (by decide +kernel) (by decide +kernel)
set_option maxRecDepth 20000 in
theorem gL_law_X8_constraints : GoodIn wsL_law (wsV RL 41 RX8 yX8_constraints wsX8_constraints) := goodIn_app (goodIn_of _ (by decide +kernel)) ggL_law_X8_constraints
set_option maxRecDepth 20000 in
theorem ggL_law_X9_constraints : GoodIn wsL_law wsX9_constraints := goodIn_r _ [484, 322, 323, 324, 5, 325, 116, 1024, 1025, 1026, 1027, 1028, 1029, 1030, 1031, 1032, 1033, 1034, 1035, 1036, 1037, 1038, 1039, 1040, 1041, 1042, 1043, 1044, 1045, 1046, 1047, 1048, 1049, 1050, 1051, 1052, 1053, 1054, 1055, 1056, 1057, 1058, 1059] (by decide +kernel) (by decide +kernel)
set_option maxRecDepth 20000 in
theorem gL_law_X9_constraints : GoodIn wsL_law (wsV RL 45 RX9 yX9_constraints wsX9_constraints) := goodIn_app (goodIn_of _ (by decide +kernel)) ggL_law_X9_constraints
set_option maxRecDepth 20000 in
theorem ggL_law_X8_say : GoodIn wsL_law wsX8_say := goodIn_r _ [488, 17, 489, 490, 491, 16, 492, 50, 493, 494, 495, 496, 49, 497, 498, 499, 500, 1013, 1014, 1015, 1016, 1017, 1018, 1019, 1020, 1021, 1022, 1023, 1060, 1061] (by decide +kernel) (by decide +kernel)
set_option maxRecDepth 20000 in
theorem gL_law_X8_say : GoodIn wsL_law (wsV RL 46 RX8 yX8_say wsX8_say) := goodIn_app (goodIn_of _ (by decide +kernel)) ggL_law_X8_say
set_option maxRecDepth 20000 in
theorem ggL_law_X9_say : GoodIn wsL_law wsX9_say := goodIn_r _ [504, 505, 120, 154, 155, 5, 156, 1024, 1025, 1026, 1027, 1028, 1029, 1030, 1031, 1032, 1033, 1034, 1035, 1036, 1037, 1038, 1039, 1040, 1041, 1042, 1043, 1044, 1045, 1046, 1047, 1048, 1049, 1050, 1051, 1052, 1053, 1054, 1055, 1056, 1057, 1058, 1059] (by decide +kernel) (by decide +kernel)
set_option maxRecDepth 20000 in
theorem gL_law_X9_say : GoodIn wsL_law (wsV RL 49 RX9 yX9_say wsX9_say) := goodIn_app (goodIn_of _ (by decide +kernel)) ggL_law_X9_say
set_option maxRecDepth 20000 in
theorem ggL_law_X8_wipe : GoodIn wsL_law wsX8_wipe := goodIn_r _ [509, 17, 497, 498, 499, 16, 500, 50, 510, 511, 512, 513, 1013, 1014, 1015, 1016, 1017, 1018, 1019, 1020, 1021, 1022, 1023, 1060, 1061] (by decide +kernel) (by decide +kernel)
set_option maxRecDepth 20000 in
theorem gL_law_X8_wipe : GoodIn wsL_law (wsV RL 50 RX8 yX8_wipe wsX8_wipe) := goodIn_app (goodIn_of _ (by decide +kernel)) ggL_law_X8_wipe
set_option maxRecDepth 20000 in
theorem ggL_law_X9_wipe : GoodIn wsL_law wsX9_wipe := goodIn_r _ [517, 505, 1024, 1025, 1026, 1027, 1028, 1029, 1030, 1031, 1032, 1033, 1034, 1035, 1036, 1037, 1038, 1039, 1040, 1041, 1042, 1043, 1044, 1045, 1046, 1047, 1048, 1049, 1050, 1051, 1052, 1053, 1054, 1055, 1056, 1057, 1058, 1059] (by decide +kernel) (by decide +kernel)
set_option maxRecDepth 20000 in
theorem gL_law_X9_wipe : GoodIn wsL_law (wsV RL 53 RX9 yX9_wipe wsX9_wipe) := goodIn_app (goodIn_of _ (by decide +kernel)) ggL_law_X9_wipe
set_option maxRecDepth 20000 in
theorem ggL_law_X8_fault : GoodIn wsL_law wsX8_fault := goodIn_r _ [521, 22, 17, 522, 523, 524, 21, 525, 526, 527, 528, 529, 54, 55, 56, 57, 59, 60, 61, 62, 530, 498, 499, 16, 500, 50, 531, 532, 533, 534, 49, 535, 536, 537, 538, 539, 540, 541, 542, 543, 544, 545, 546, 547, 548, 549, 550, 551, 552, 553, 554, 58, 555, 556, 557, 558, 559, 560, 561, 562, 563, 564, 565, 566, 567, 568, 569, 570, 571, 572, 573, 574, 575, 576, 577, 578, 579, 580, 581, 582, 497, 1013, 1014, 1015, 1016, 1017, 1018, 1019, 1020, 1021, 1022, 1023, 1062, 1063, 1064, 1065, 1066, 1067, 1068, 1069, 1070, 1060, 1061] (by decide +kernel) (by decide +kernel)
set_option maxRecDepth 20000 in
theorem gL_law_X8_fault : GoodIn wsL_law (wsV RL 54 RX8 yX8_fault wsX8_fault) := goodIn_app (goodIn_of _ (by decide +kernel)) ggL_law_X8_fault
set_option maxRecDepth 20000 in
theorem ggL_law_X9_fault : GoodIn wsL_law wsX9_fault := goodIn_r _ [586, 587, 588, 131, 589, 590, 591, 505, 592, 593, 594, 5, 595, 596, 597, 598, 599, 120, 600, 601, 602, 603, 154, 155, 156, 604, 605, 606, 607, 608, 609, 610, 611, 612, 1024, 1025, 1026, 1027, 1028, 1029, 1030, 1031, 1032, 1033, 1034, 1035, 1036, 1037, 1038, 1039, 1040, 1041, 1042, 1043, 1044, 1045, 1046, 1047, 1048, 1049, 1050, 1051, 1052, 1053, 1054, 1055, 1056, 1057, 1058, 1059] (by decide +kernel) (by decide +kernel)
set_option maxRecDepth 20000 in
theorem gL_law_X9_fault : GoodIn wsL_law (wsV RL 57 RX9 yX9_fault wsX9_fault) := goodIn_app (goodIn_of _ (by decide +kernel)) ggL_law_X9_fault
set_option maxRecDepth 20000 in
theorem ggL_law_X8_spell : GoodIn wsL_law wsX8_spell := goodIn_r _ [634, 26, 18, 195, 196, 197, 25, 198, 67, 635, 636, 637, 44, 638, 107, 108, 109, 639, 640, 272, 641, 110, 111, 642, 511, 512, 16, 513, 50, 643, 644, 645, 646, 494, 495, 496, 49, 647, 498, 499, 500, 648, 649, 650, 497, 651, 532, 533, 534, 1013, 1014, 1015, 1016, 1017, 1018, 1019, 1020, 1021, 1022, 1023, 1071, 1089, 1090, 1091, 1092, 1093, 1060, 1061] (by decide +kernel) (by decide +kernel)
set_option maxRecDepth 20000 in
theorem gL_law_X8_spell : GoodIn wsL_law (wsV RL 62 RX8 yX8_spell wsX8_spell) := goodIn_app (goodIn_of _ (by decide +kernel)) ggL_law_X8_spell
set_option maxRecDepth 20000 in
theorem ggL_law_X9_spell : GoodIn wsL_law wsX9_spell := goodIn_r _ [655, 656, 132, 434, 435, 436, 5, 437, 154, 155, 156, 322, 323, 324, 325, 116, 657, 658, 659, 660, 661, 662, 663, 664, 665, 666, 667, 668, 1024, 1025, 1026, 1027, 1028, 1029, 1030, 1031, 1032, 1033, 1034, 1035, 1036, 1037, 1038, 1039, 1040, 1041, 1042, 1043, 1044, 1045, 1046, 1047, 1048, 1049, 1050, 1051, 1052, 1053, 1054, 1055, 1056, 1057, 1058, 1059] (by decide +kernel) (by decide +kernel)
set_option maxRecDepth 20000 in
theorem gL_law_X9_spell : GoodIn wsL_law (wsV RL 65 RX9 yX9_spell wsX9_spell) := goodIn_app (goodIn_of _ (by decide +kernel)) ggL_law_X9_spell
set_option maxRecDepth 20000 in
theorem ggL_law_X8_undo : GoodIn wsL_law wsX8_undo := goodIn_r _ [672, 31, 673, 674, 675, 676, 677, 30, 678, 73, 74, 72, 199, 200, 201, 2, 202, 26, 35, 203, 204, 205, 25, 206, 67, 207, 208, 209, 34, 210, 211, 212, 213, 214, 215, 90, 91, 84, 216, 217, 218, 219, 81, 82, 85, 86, 220, 87, 88, 89, 221, 222, 223, 44, 224, 107, 225, 226, 227, 228, 229, 230, 231, 232, 108, 111, 233, 234, 235, 236, 1013, 1014, 1015, 1016, 1017, 1018, 1019, 1020, 1021, 1022, 1023, 1094, 1095, 1096, 1072, 1073, 1074, 1071, 1089, 1090, 1091, 1092, 1093, 1075, 1076, 1077, 1078, 1079, 1080, 1081, 1082, 1083, 1084, 1085, 1086] (by decide +kernel) (by decide +kernel)
set_option maxRecDepth 20000 in
theorem gL_law_X8_undo : GoodIn wsL_law (wsV RL 66 RX8 yX8_undo wsX8_undo) := goodIn_app (goodIn_of _ (by decide +kernel)) ggL_law_X8_undo
set_option maxRecDepth 20000 in
theorem ggL_law_X9_undo : GoodIn wsL_law wsX9_undo := goodIn_r _ [682, 405, 406, 121, 122, 407, 408, 409, 5, 410, 116, 136, 1024, 1025, 1026, 1027, 1028, 1029, 1030, 1031, 1032, 1033, 1034, 1035, 1036, 1037, 1038, 1039, 1040, 1041, 1042, 1043, 1044, 1045, 1046, 1047, 1048, 1049, 1050, 1051, 1052, 1053, 1054, 1055, 1056, 1057, 1058, 1059] (by decide +kernel) (by decide +kernel)
set_option maxRecDepth 20000 in
theorem gL_law_X9_undo : GoodIn wsL_law (wsV RL 69 RX9 yX9_undo wsX9_undo) := goodIn_app (goodIn_of _ (by decide +kernel)) ggL_law_X9_undo
set_option maxRecDepth 20000 in
theorem ggL_law_X8_redo : GoodIn wsL_law wsX8_redo := goodIn_r _ [686, 31, 673, 687, 688, 689, 690, 30, 691, 74, 73, 72, 199, 200, 201, 2, 202, 26, 35, 203, 204, 205, 25, 206, 67, 207, 208, 209, 34, 210, 211, 212, 213, 214, 215, 90, 91, 84, 216, 217, 218, 219, 81, 82, 85, 86, 220, 87, 88, 89, 221, 222, 223, 44, 224, 107, 225, 226, 227, 228, 229, 230, 231, 232, 108, 111, 233, 234, 235, 236, 1013, 1014, 1015, 1016, 1017, 1018, 1019, 1020, 1021, 1022, 1023, 1094, 1095, 1096, 1072, 1073, 1074, 1071, 1089, 1090, 1091, 1092, 1093, 1075, 1076, 1077, 1078, 1079, 1080, 1081, 1082, 1083, 1084, 1085, 1086] (by decide +kernel) (by decide +kernel)
set_option maxRecDepth 20000 in
theorem gL_law_X8_redo : GoodIn wsL_law (wsV RL 70 RX8 yX8_redo wsX8_redo) := goodIn_app (goodIn_of _ (by decide +kernel)) ggL_law_X8_redo
set_option maxRecDepth 20000 in
theorem ggL_law_X9_redo : GoodIn wsL_law wsX9_redo := goodIn_r _ [695, 406, 121, 405, 123, 407, 408, 409, 5, 410, 116, 136, 1024, 1025, 1026, 1027, 1028, 1029, 1030, 1031, 1032, 1033, 1034, 1035, 1036, 1037, 1038, 1039, 1040, 1041, 1042, 1043, 1044, 1045, 1046, 1047, 1048, 1049, 1050, 1051, 1052, 1053, 1054, 1055, 1056, 1057, 1058, 1059] (by decide +kernel) (by decide +kernel)
set_option maxRecDepth 20000 in
theorem gL_law_X9_redo : GoodIn wsL_law (wsV RL 73 RX9 yX9_redo wsX9_redo) := goodIn_app (goodIn_of _ (by decide +kernel)) ggL_law_X9_redo
set_option maxRecDepth 20000 in
theorem ggL_law_X8_cost : GoodIn wsL_law wsX8_cost := goodIn_r _ [699, 700, 39, 701, 702, 2, 703, 704, 705, 706, 707, 708, 709, 710, 35, 711, 712, 713, 34, 714, 241, 242, 243, 244, 93, 245, 246, 247, 248, 249, 92, 84, 90, 86, 89, 87, 88, 250, 251, 252, 253, 81, 254, 255, 256, 257, 91, 258, 259, 260, 261, 82, 262, 263, 264, 265, 266, 267, 268, 269, 270, 271, 272, 273, 274, 275, 276, 277, 278, 279, 280, 281, 715, 716, 717, 718, 719, 720, 721, 38, 722, 101, 102, 282, 283, 284, 285, 723, 724, 725, 726, 727, 728, 729, 730, 731, 732, 733, 1013, 1014, 1015, 1016, 1017, 1018, 1019, 1020, 1021, 1022, 1023, 1075, 1076, 1077, 1078, 1079, 1080, 1081, 1082, 1083, 1084, 1085, 1086, 1087, 1088] (by decide +kernel) (by decide +kernel)
set_option maxRecDepth 20000 in
theorem gL_law_X8_cost : GoodIn wsL_law (wsV RL 74 RX8 yX8_cost wsX8_cost) := goodIn_app (goodIn_of _ (by decide +kernel)) ggL_law_X8_cost
