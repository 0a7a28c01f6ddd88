/-! ===== the words of the calls of the law ===== -/
set_option maxRecDepth 20000 in
theorem ggL_law_X5_init : GoodIn wsL_law wsX5_init := goodIn_r _ [8, 9, 10, 11, 12, 13, 14, 15, 16, 17, 18, 19, 20, 21, 22, 23, 24, 25, 26, 27, 28, 29, 30, 31, 32, 33, 34, 35, 36, 37, 38, 39, 40, 41, 42, 43, 44, 45, 46, 47, 48, 49, 50, 51, 52, 53, 54, 55, 56, 57, 58, 59, 60, 61, 62, 63, 64, 65, 66, 67, 68, 69, 70, 71, 72, 73, 74, 75, 76, 77, 78, 79, 80, 81, 82, 83, 84, 85, 1127, 1128, 1129, 1130, 1098, 1099, 1100, 1101, 1102, 1103, 1104, 1131, 1132, 1133, 1134, 1135, 1136, 1137, 1138, 1139, 1140, 1141, 1142, 1143, 1144, 1145, 1146, 1147, 1148, 1149, 1150, 1151, 1152] (by decide +kernel) (by decide +kernel)
set_option maxRecDepth 20000 in
theorem gL_law_X5_init : GoodIn wsL_law (wsX5_init) := ggL_law_X5_init
set_option maxRecDepth 20000 in
theorem ggL_law_X6_init : GoodIn wsL_law wsX6_init := goodIn_r _ [88, 89, 10, 11, 28, 90, 91, 92, 93, 94, 95, 96, 97, 98, 99, 100, 101, 102, 103, 5, 104, 1105, 1106, 1107, 1108, 1109, 1110, 1111, 1112, 1113, 1114, 1115, 1116, 1117, 1118, 1119, 1120, 1121, 1122, 1123, 1124, 1125, 1126] (by decide +kernel) (by decide +kernel)
set_option maxRecDepth 20000 in
theorem gL_law_X6_init : GoodIn wsL_law (wsX6_init) := ggL_law_X6_init
set_option maxRecDepth 20000 in
theorem ggL_law_X5_kind : GoodIn wsL_law wsX5_kind := goodIn_r _ [108, 15, 109, 110, 111, 112, 2, 113, 114, 115, 116, 117, 118, 119, 120, 121, 122, 123, 29, 124, 1098, 1099, 1100, 1101, 1102, 1103, 1104, 1127, 1128, 1129, 1130, 1131, 1132, 1133, 1134, 1135, 1136, 1137, 1138, 1139, 1140] (by decide +kernel) (by decide +kernel)
set_option maxRecDepth 20000 in
theorem gL_law_X5_kind : GoodIn wsL_law (wsV RL 13 RX5 yX5_kind wsX5_kind) := goodIn_app (goodIn_of _ (by decide +kernel)) ggL_law_X5_kind
set_option maxRecDepth 20000 in
theorem ggL_law_X6_kind : GoodIn wsL_law wsX6_kind := goodIn_r _ [128, 129, 130, 131, 5, 132, 133, 134, 135, 136, 137, 138, 139, 140, 141, 142, 90, 143, 144, 145, 146, 93, 1105, 1106, 1107, 1108, 1109, 1110, 1111, 1112, 1113, 1114, 1115, 1116, 1117, 1118, 1119, 1120, 1121, 1122, 1123, 1124, 1125, 1126] (by decide +kernel) (by decide +kernel)
set_option maxRecDepth 20000 in
theorem gL_law_X6_kind : GoodIn wsL_law (wsV RL 17 RX6 yX6_kind wsX6_kind) := goodIn_app (goodIn_of _ (by decide +kernel)) ggL_law_X6_kind
set_option maxRecDepth 20000 in
theorem ggL_law_X5_of : GoodIn wsL_law wsX5_of := goodIn_r _ [150, 15, 109, 151, 152, 2, 153, 114, 115, 116, 111, 112, 113, 120, 121, 122, 123, 29, 124, 154, 155, 156, 20, 157, 49, 50, 51, 1098, 1099, 1100, 1101, 1102, 1103, 1104, 1127, 1128, 1129, 1130, 1131, 1132, 1133, 1134, 1135, 1136, 1137, 1138, 1139, 1140] (by decide +kernel) (by decide +kernel)
set_option maxRecDepth 20000 in
theorem gL_law_X5_of : GoodIn wsL_law (wsV RL 18 RX5 yX5_of wsX5_of) := goodIn_app (goodIn_of _ (by decide +kernel)) ggL_law_X5_of
set_option maxRecDepth 20000 in
theorem ggL_law_X6_of : GoodIn wsL_law wsX6_of := goodIn_r _ [161, 129, 162, 163, 5, 164, 133, 134, 135, 130, 131, 132, 165, 166, 167, 168, 169, 170, 171, 90, 102, 103, 104, 143, 144, 145, 146, 93, 1105, 1106, 1107, 1108, 1109, 1110, 1111, 1112, 1113, 1114, 1115, 1116, 1117, 1118, 1119, 1120, 1121, 1122, 1123, 1124, 1125, 1126] (by decide +kernel) (by decide +kernel)
set_option maxRecDepth 20000 in
theorem gL_law_X6_of : GoodIn wsL_law (wsV RL 22 RX6 yX6_of wsX6_of) := goodIn_app (goodIn_of _ (by decide +kernel)) ggL_law_X6_of
set_option maxRecDepth 20000 in
theorem ggL_law_X5_change : GoodIn wsL_law wsX5_change := goodIn_r _ [175, 15, 109, 151, 152, 2, 153, 114, 115, 116, 111, 112, 113, 176, 177, 178, 120, 121, 122, 123, 29, 124, 154, 155, 156, 20, 157, 49, 50, 51, 1098, 1099, 1100, 1101, 1102, 1103, 1104, 1127, 1128, 1129, 1130, 1131, 1132, 1133, 1134, 1135, 1136, 1137, 1138, 1139, 1140] (by decide +kernel) (by decide +kernel)
set_option maxRecDepth 20000 in
theorem gL_law_X5_change : GoodIn wsL_law (wsV RL 23 RX5 yX5_change wsX5_change) := goodIn_app (goodIn_of _ (by decide +kernel)) ggL_law_X5_change
set_option maxRecDepth 20000 in
theorem ggL_law_X6_change : GoodIn wsL_law wsX6_change := goodIn_r _ [182, 129, 162, 163, 5, 164, 133, 134, 135, 130, 131, 132, 165, 166, 167, 102, 103, 104, 139, 140, 141, 142, 90, 143, 144, 145, 146, 93, 1105, 1106, 1107, 1108, 1109, 1110, 1111, 1112, 1113, 1114, 1115, 1116, 1117, 1118, 1119, 1120, 1121, 1122, 1123, 1124, 1125, 1126] (by decide +kernel) (by decide +kernel)
set_option maxRecDepth 20000 in
theorem gL_law_X6_change : GoodIn wsL_law (wsV RL 27 RX6 yX6_change wsX6_change) := goodIn_app (goodIn_of _ (by decide +kernel)) ggL_law_X6_change
set_option maxRecDepth 20000 in
theorem ggL_law_X5_side : GoodIn wsL_law wsX5_side := goodIn_r _ [186, 15, 109, 187, 188, 151, 152, 2, 153, 114, 115, 116, 120, 121, 122, 123, 29, 124, 1098, 1099, 1100, 1101, 1102, 1103, 1104, 1127, 1128, 1129, 1130, 1131, 1132, 1133, 1134, 1135, 1136, 1137, 1138, 1139, 1140] (by decide +kernel) (by decide +kernel)
set_option maxRecDepth 20000 in
theorem gL_law_X5_side : GoodIn wsL_law (wsV RL 28 RX5 yX5_side wsX5_side) := goodIn_app (goodIn_of _ (by decide +kernel)) ggL_law_X5_side
set_option maxRecDepth 20000 in
theorem ggL_law_X6_side : GoodIn wsL_law wsX6_side := goodIn_r _ [192, 129, 162, 163, 5, 164, 133, 134, 135, 102, 103, 104, 139, 140, 141, 142, 90, 143, 144, 145, 146, 93, 1105, 1106, 1107, 1108, 1109, 1110, 1111, 1112, 1113, 1114, 1115, 1116, 1117, 1118, 1119, 1120, 1121, 1122, 1123, 1124, 1125, 1126] (by decide +kernel) (by decide +kernel)
set_option maxRecDepth 20000 in
theorem gL_law_X6_side : GoodIn wsL_law (wsV RL 31 RX6 yX6_side wsX6_side) := goodIn_app (goodIn_of _ (by decide +kernel)) ggL_law_X6_side
set_option maxRecDepth 20000 in
theorem ggL_law_X5_frost : GoodIn wsL_law wsX5_frost := goodIn_r _ [196, 15, 109, 197, 114, 115, 2, 116, 120, 121, 122, 123, 29, 124, 1098, 1099, 1100, 1101, 1102, 1103, 1104, 1127, 1128, 1129, 1130, 1131, 1132, 1133, 1134, 1135, 1136, 1137, 1138, 1139, 1140] (by decide +kernel) (by decide +kernel)
set_option maxRecDepth 20000 in
theorem gL_law_X5_frost : GoodIn wsL_law (wsV RL 32 RX5 yX5_frost wsX5_frost) := goodIn_app (goodIn_of _ (by decide +kernel)) ggL_law_X5_frost
set_option maxRecDepth 20000 in
theorem ggL_law_X6_frost : GoodIn wsL_law wsX6_frost := goodIn_r _ [201, 129, 133, 134, 5, 135, 139, 140, 141, 142, 90, 143, 144, 145, 146, 93, 1105, 1106, 1107, 1108, 1109, 1110, 1111, 1112, 1113, 1114, 1115, 1116, 1117, 1118, 1119, 1120, 1121, 1122, 1123, 1124, 1125, 1126] (by decide +kernel) (by decide +kernel)
set_option maxRecDepth 20000 in
theorem gL_law_X6_frost : GoodIn wsL_law (wsV RL 36 RX6 yX6_frost wsX6_frost) := goodIn_app (goodIn_of _ (by decide +kernel)) ggL_law_X6_frost
set_option maxRecDepth 20000 in
theorem ggL_law_X5_price : GoodIn wsL_law wsX5_price := goodIn_r _ [205, 15, 109, 151, 152, 2, 153, 114, 115, 116, 111, 112, 113, 120, 121, 122, 123, 29, 124, 206, 207, 208, 20, 209, 51, 48, 54, 1098, 1099, 1100, 1101, 1102, 1103, 1104, 1127, 1128, 1129, 1130, 1131, 1132, 1133, 1134, 1135, 1136, 1137, 1138, 1139, 1140] (by decide +kernel) (by decide +kernel)
set_option maxRecDepth 20000 in
theorem gL_law_X5_price : GoodIn wsL_law (wsV RL 37 RX5 yX5_price wsX5_price) := goodIn_app (goodIn_of _ (by decide +kernel)) ggL_law_X5_price
set_option maxRecDepth 20000 in
theorem ggL_law_X6_price : GoodIn wsL_law wsX6_price := goodIn_r _ [213, 129, 162, 163, 5, 164, 133, 134, 135, 130, 131, 132, 214, 215, 216, 217, 90, 168, 169, 170, 171, 102, 103, 104, 218, 219, 220, 221, 222, 223, 224, 225, 226, 227, 143, 144, 145, 146, 93, 1105, 1106, 1107, 1108, 1109, 1110, 1111, 1112, 1113, 1114, 1115, 1116, 1117, 1118, 1119, 1120, 1121, 1122, 1123, 1124, 1125, 1126] (by decide +kernel) (by decide +kernel)
set_option maxRecDepth 20000 in
theorem gL_law_X6_price : GoodIn wsL_law (wsV RL 40 RX6 yX6_price wsX6_price) := goodIn_app (goodIn_of _ (by decide +kernel)) ggL_law_X6_price
set_option maxRecDepth 20000 in
theorem ggL_law_X5_value : GoodIn wsL_law wsX5_value := goodIn_r _ [231, 15, 109, 151, 152, 2, 153, 114, 115, 116, 120, 121, 122, 123, 29, 124, 232, 233, 234, 20, 235, 50, 236, 207, 208, 209, 51, 48, 54, 1098, 1099, 1100, 1101, 1102, 1103, 1104, 1127, 1128, 1129, 1130, 1131, 1132, 1133, 1134, 1135, 1136, 1137, 1138, 1139, 1140] (by decide +kernel) (by decide +kernel)
set_option maxRecDepth 20000 in
theorem gL_law_X5_value : GoodIn wsL_law (wsV RL 41 RX5 yX5_value wsX5_value) := goodIn_app (goodIn_of _ (by decide +kernel)) ggL_law_X5_value
set_option maxRecDepth 20000 in
theorem ggL_law_X6_value : GoodIn wsL_law wsX6_value := goodIn_r _ [240, 129, 162, 163, 5, 164, 133, 134, 135, 241, 242, 243, 244, 168, 169, 170, 171, 90, 102, 103, 104, 214, 215, 216, 217, 218, 219, 220, 221, 222, 223, 224, 225, 226, 227, 143, 144, 145, 146, 93, 1105, 1106, 1107, 1108, 1109, 1110, 1111, 1112, 1113, 1114, 1115, 1116, 1117, 1118, 1119, 1120, 1121, 1122, 1123, 1124, 1125, 1126] (by decide +kernel) (by decide +kernel)
set_option maxRecDepth 20000 in
theorem gL_law_X6_value : GoodIn wsL_law (wsV RL 44 RX6 yX6_value wsX6_value) := goodIn_app (goodIn_of _ (by decide +kernel)) ggL_law_X6_value
set_option maxRecDepth 20000 in
theorem ggL_law_X5_eaten : GoodIn wsL_law wsX5_eaten := goodIn_r _ [248, 15, 109, 111, 112, 2, 113, 114, 115, 116, 120, 121, 122, 123, 29, 124, 249, 250, 251, 20, 252, 48, 253, 254, 255, 256, 54, 1098, 1099, 1100, 1101, 1102, 1103, 1104, 1127, 1128, 1129, 1130, 1131, 1132, 1133, 1134, 1135, 1136, 1137, 1138, 1139, 1140] (by decide +kernel) (by decide +kernel)
set_option maxRecDepth 20000 in
theorem gL_law_X5_eaten : GoodIn wsL_law (wsV RL 45 RX5 yX5_eaten wsX5_eaten) := goodIn_app (goodIn_of _ (by decide +kernel)) ggL_law_X5_eaten
set_option maxRecDepth 20000 in
theorem ggL_law_X6_eaten : GoodIn wsL_law wsX6_eaten := goodIn_r _ [260, 129, 130, 131, 5, 132, 133, 134, 135, 261, 262, 263, 264, 90, 265, 254, 255, 256, 143, 144, 145, 146, 93, 1105, 1106, 1107, 1108, 1109, 1110, 1111, 1112, 1113, 1114, 1115, 1116, 1117, 1118, 1119, 1120, 1121, 1122, 1123, 1124, 1125, 1126] (by decide +kernel) (by decide +kernel)
set_option maxRecDepth 20000 in
theorem gL_law_X6_eaten : GoodIn wsL_law (wsV RL 48 RX6 yX6_eaten wsX6_eaten) := goodIn_app (goodIn_of _ (by decide +kernel)) ggL_law_X6_eaten
set_option maxRecDepth 20000 in
theorem ggL_law_X5_lay : GoodIn wsL_law wsX5_lay := goodIn_r _ [269, 15, 109, 151, 152, 2, 153, 114, 115, 116, 111, 112, 113, 120, 121, 122, 123, 29, 124, 270, 271, 272, 20, 273, 49, 53, 50, 274, 275, 276, 277, 1098, 1099, 1100, 1101, 1102, 1103, 1104, 1127, 1128, 1129, 1130, 1131, 1132, 1133, 1134, 1135, 1136, 1137, 1138, 1139, 1140] (by decide +kernel) (by decide +kernel)
set_option maxRecDepth 20000 in
theorem gL_law_X5_lay : GoodIn wsL_law (wsV RL 49 RX5 yX5_lay wsX5_lay) := goodIn_app (goodIn_of _ (by decide +kernel)) ggL_law_X5_lay
set_option maxRecDepth 20000 in
theorem ggL_law_X6_lay : GoodIn wsL_law wsX6_lay := goodIn_r _ [281, 129, 282, 283, 284, 5, 285, 162, 163, 164, 133, 134, 135, 130, 131, 132, 143, 144, 145, 146, 93, 286, 287, 288, 289, 168, 169, 170, 171, 90, 102, 103, 104, 290, 291, 292, 293, 1105, 1106, 1107, 1108, 1109, 1110, 1111, 1112, 1113, 1114, 1115, 1116, 1117, 1118, 1119, 1120, 1121, 1122, 1123, 1124, 1125, 1126] (by decide +kernel) (by decide +kernel)
set_option maxRecDepth 20000 in
theorem gL_law_X6_lay : GoodIn wsL_law (wsV RL 52 RX6 yX6_lay wsX6_lay) := goodIn_app (goodIn_of _ (by decide +kernel)) ggL_law_X6_lay
set_option maxRecDepth 20000 in
theorem ggL_law_X5_back : GoodIn wsL_law wsX5_back := goodIn_r _ [297, 15, 109, 298, 299, 151, 152, 2, 153, 114, 115, 116, 111, 112, 113, 120, 121, 122, 123, 29, 124, 1098, 1099, 1100, 1101, 1102, 1103, 1104, 1127, 1128, 1129, 1130, 1131, 1132, 1133, 1134, 1135, 1136, 1137, 1138, 1139, 1140] (by decide +kernel) (by decide +kernel)
set_option maxRecDepth 20000 in
theorem gL_law_X5_back : GoodIn wsL_law (wsV RL 53 RX5 yX5_back wsX5_back) := goodIn_app (goodIn_of _ (by decide +kernel)) ggL_law_X5_back
set_option maxRecDepth 20000 in
theorem ggL_law_X6_back : GoodIn wsL_law wsX6_back := goodIn_r _ [303, 129, 282, 283, 284, 5, 285, 162, 163, 164, 133, 134, 135, 130, 131, 132, 143, 144, 145, 146, 93, 168, 169, 170, 171, 90, 102, 103, 104, 290, 291, 292, 293, 1105, 1106, 1107, 1108, 1109, 1110, 1111, 1112, 1113, 1114, 1115, 1116, 1117, 1118, 1119, 1120, 1121, 1122, 1123, 1124, 1125, 1126] (by decide +kernel) (by decide +kernel)
set_option maxRecDepth 20000 in
theorem gL_law_X6_back : GoodIn wsL_law (wsV RL 56 RX6 yX6_back wsX6_back) := goodIn_app (goodIn_of _ (by decide +kernel)) ggL_law_X6_back
set_option maxRecDepth 20000 in
theorem ggL_law_X5_content : GoodIn wsL_law wsX5_content := goodIn_r _ [307, 15, 109, 151, 152, 2, 153, 114, 115, 116, 120, 121, 122, 123, 29, 124, 308, 309, 310, 20, 311, 52, 312, 313, 314, 315, 50, 316, 233, 234, 235, 236, 207, 208, 209, 51, 48, 54, 1098, 1099, 1100, 1101, 1102, 1103, 1104, 1127, 1128, 1129, 1130, 1131, 1132, 1133, 1134, 1135, 1136, 1137, 1138, 1139, 1140] (by decide +kernel) (by decide +kernel)
set_option maxRecDepth 20000 in
theorem gL_law_X5_content : GoodIn wsL_law (wsV RL 57 RX5 yX5_content wsX5_content) := goodIn_app (goodIn_of _ (by decide +kernel)) ggL_law_X5_content
set_option maxRecDepth 20000 in
theorem ggL_law_X6_content : GoodIn wsL_law wsX6_content := goodIn_r _ [320, 129, 162, 163, 5, 164, 133, 134, 135, 321, 322, 323, 324, 325, 326, 327, 328, 329, 330, 331, 332, 168, 169, 170, 171, 90, 102, 103, 104, 241, 242, 243, 244, 214, 215, 216, 217, 218, 219, 220, 221, 222, 223, 224, 225, 226, 227, 143, 144, 145, 146, 93, 1105, 1106, 1107, 1108, 1109, 1110, 1111, 1112, 1113, 1114, 1115, 1116, 1117, 1118, 1119, 1120, 1121, 1122, 1123, 1124, 1125, 1126] (by decide +kernel) (by decide +kernel)
set_option maxRecDepth 20000 in
theorem gL_law_X6_content : GoodIn wsL_law (wsV RL 60 RX6 yX6_content wsX6_content) := goodIn_app (goodIn_of _ (by decide +kernel)) ggL_law_X6_content
set_option maxRecDepth 20000 in
theorem ggL_law_X5_does : GoodIn wsL_law wsX5_does := goodIn_r _ [336, 15, 109, 151, 152, 2, 153, 114, 115, 116, 120, 121, 122, 123, 29, 124, 337, 338, 339, 20, 340, 53, 312, 313, 314, 315, 50, 341, 309, 310, 311, 52, 316, 233, 234, 235, 236, 207, 208, 209, 51, 48, 54, 1098, 1099, 1100, 1101, 1102, 1103, 1104, 1127, 1128, 1129, 1130, 1131, 1132, 1133, 1134, 1135, 1136, 1137, 1138, 1139, 1140] (by decide +kernel) (by decide +kernel)
set_option maxRecDepth 20000 in
theorem gL_law_X5_does : GoodIn wsL_law (wsV RL 61 RX5 yX5_does wsX5_does) := goodIn_app (goodIn_of _ (by decide +kernel)) ggL_law_X5_does
set_option maxRecDepth 20000 in
theorem ggL_law_X6_does : GoodIn wsL_law wsX6_does := goodIn_r _ [345, 129, 162, 163, 5, 164, 133, 134, 135, 346, 347, 348, 349, 168, 169, 170, 171, 90, 102, 103, 104, 325, 326, 327, 328, 329, 330, 331, 332, 321, 322, 323, 324, 241, 242, 243, 244, 214, 215, 216, 217, 218, 219, 220, 221, 222, 223, 224, 225, 226, 227, 143, 144, 145, 146, 93, 1105, 1106, 1107, 1108, 1109, 1110, 1111, 1112, 1113, 1114, 1115, 1116, 1117, 1118, 1119, 1120, 1121, 1122, 1123, 1124, 1125, 1126] (by decide +kernel) (by decide +kernel)
set_option maxRecDepth 20000 in
theorem gL_law_X6_does : GoodIn wsL_law (wsV RL 64 RX6 yX6_does wsX6_does) := goodIn_app (goodIn_of _ (by decide +kernel)) ggL_law_X6_does
set_option maxRecDepth 20000 in
theorem ggL_law_X5_less : GoodIn wsL_law wsX5_less := goodIn_r _ [353, 15, 109, 151, 152, 2, 153, 114, 115, 116, 120, 121, 122, 123, 29, 124, 337, 338, 339, 20, 340, 53, 312, 313, 314, 315, 50, 341, 309, 310, 311, 52, 316, 233, 234, 235, 236, 207, 208, 209, 51, 48, 54, 354, 355, 356, 357, 1098, 1099, 1100, 1101, 1102, 1103, 1104, 1127, 1128, 1129, 1130, 1131, 1132, 1133, 1134, 1135, 1136, 1137, 1138, 1139, 1140] (by decide +kernel) (by decide +kernel)
set_option maxRecDepth 20000 in
theorem gL_law_X5_less : GoodIn wsL_law (wsV RL 65 RX5 yX5_less wsX5_less) := goodIn_app (goodIn_of _ (by decide +kernel)) ggL_law_X5_less
set_option maxRecDepth 20000 in
theorem ggL_law_X6_less : GoodIn wsL_law wsX6_less := goodIn_r _ [361, 129, 362, 162, 163, 5, 164, 133, 134, 135, 143, 144, 145, 146, 93, 346, 347, 348, 349, 168, 169, 170, 171, 90, 102, 103, 104, 325, 326, 327, 328, 329, 330, 331, 332, 321, 322, 323, 324, 241, 242, 243, 244, 214, 215, 216, 217, 218, 219, 220, 221, 222, 223, 224, 225, 226, 227, 363, 364, 365, 366, 1105, 1106, 1107, 1108, 1109, 1110, 1111, 1112, 1113, 1114, 1115, 1116, 1117, 1118, 1119, 1120, 1121, 1122, 1123, 1124, 1125, 1126] (by decide +kernel) (by decide +kernel)
set_option maxRecDepth 20000 in
theorem gL_law_X6_less : GoodIn wsL_law (wsV RL 68 RX6 yX6_less wsX6_less) := goodIn_app (goodIn_of _ (by decide +kernel)) ggL_law_X6_less
set_option maxRecDepth 20000 in
theorem ggL_law_X5_steal : GoodIn wsL_law wsX5_steal := goodIn_r _ [370, 15, 109, 188, 151, 152, 2, 153, 114, 115, 116, 120, 121, 122, 123, 29, 124, 371, 313, 314, 20, 315, 50, 232, 233, 234, 235, 236, 207, 208, 209, 51, 48, 54, 372, 373, 374, 375, 376, 377, 378, 379, 49, 253, 254, 255, 256, 1098, 1099, 1100, 1101, 1102, 1103, 1104, 1127, 1128, 1129, 1130, 1131, 1132, 1133, 1134, 1135, 1136, 1137, 1138, 1139, 1140] (by decide +kernel) (by decide +kernel)
set_option maxRecDepth 20000 in
theorem gL_law_X5_steal : GoodIn wsL_law (wsV RL 69 RX5 yX5_steal wsX5_steal) := goodIn_app (goodIn_of _ (by decide +kernel)) ggL_law_X5_steal
set_option maxRecDepth 20000 in
theorem ggL_law_X6_steal : GoodIn wsL_law wsX6_steal := goodIn_r _ [383, 129, 282, 162, 163, 5, 164, 133, 134, 135, 143, 144, 145, 146, 93, 325, 326, 327, 328, 329, 330, 331, 332, 168, 169, 170, 171, 90, 102, 103, 104, 384, 385, 386, 387, 241, 242, 243, 244, 214, 215, 216, 217, 218, 219, 220, 221, 222, 223, 224, 225, 226, 227, 388, 389, 390, 391, 139, 140, 141, 142, 392, 393, 394, 395, 265, 254, 255, 256, 1105, 1106, 1107, 1108, 1109, 1110, 1111, 1112, 1113, 1114, 1115, 1116, 1117, 1118, 1119, 1120, 1121, 1122, 1123, 1124, 1125, 1126] (by decide +kernel) (by decide +kernel)
set_option maxRecDepth 20000 in
theorem gL_law_X6_steal : GoodIn wsL_law (wsV RL 72 RX6 yX6_steal wsX6_steal) := goodIn_app (goodIn_of _ (by decide +kernel)) ggL_law_X6_steal
set_option maxRecDepth 20000 in
theorem ggL_law_X5_gift : GoodIn wsL_law wsX5_gift := goodIn_r _ [399, 15, 109, 299, 188, 151, 152, 2, 153, 114, 115, 116, 111, 112, 113, 120, 121, 122, 123, 29, 124, 400, 377, 378, 20, 379, 49, 253, 254, 255, 256, 401, 402, 403, 404, 53, 1098, 1099, 1100, 1101, 1102, 1103, 1104, 1127, 1128, 1129, 1130, 1131, 1132, 1133, 1134, 1135, 1136, 1137, 1138, 1139, 1140] (by decide +kernel) (by decide +kernel)
set_option maxRecDepth 20000 in
theorem gL_law_X5_gift : GoodIn wsL_law (wsV RL 73 RX5 yX5_gift wsX5_gift) := goodIn_app (goodIn_of _ (by decide +kernel)) ggL_law_X5_gift
set_option maxRecDepth 20000 in
theorem ggL_law_X6_gift : GoodIn wsL_law wsX6_gift := goodIn_r _ [408, 129, 282, 90, 283, 284, 5, 285, 162, 163, 164, 133, 134, 135, 130, 131, 132, 143, 144, 145, 146, 93, 168, 169, 170, 171, 102, 103, 104, 392, 393, 394, 395, 265, 254, 255, 256, 409, 410, 411, 412, 1105, 1106, 1107, 1108, 1109, 1110, 1111, 1112, 1113, 1114, 1115, 1116, 1117, 1118, 1119, 1120, 1121, 1122, 1123, 1124, 1125, 1126] (by decide +kernel) (by decide +kernel)
set_option maxRecDepth 20000 in
theorem gL_law_X6_gift : GoodIn wsL_law (wsV RL 76 RX6 yX6_gift wsX6_gift) := goodIn_app (goodIn_of _ (by decide +kernel)) ggL_law_X6_gift
set_option maxRecDepth 20000 in
theorem ggL_law_X5_nights : GoodIn wsL_law wsX5_nights := goodIn_r _ [416, 114, 115, 2, 116, 120, 121, 122, 123, 29, 124, 417, 418, 419, 420, 15, 109, 421, 422, 423, 424, 425, 426, 427, 428, 429, 20, 430, 55, 337, 338, 339, 340, 53, 312, 313, 314, 315, 50, 341, 309, 310, 311, 52, 316, 233, 234, 235, 236, 207, 208, 209, 51, 48, 54, 431, 432, 433, 40, 434, 66, 67, 435, 436, 437, 438, 439, 440, 441, 68, 442, 254, 255, 256, 443, 444, 445, 446, 447, 448, 449, 450, 56, 451, 373, 374, 375, 376, 377, 378, 379, 49, 253, 452, 402, 403, 404, 453, 454, 455, 456, 457, 355, 356, 357, 458, 459, 460, 461, 57, 462, 250, 251, 252, 1098, 1099, 1100, 1101, 1102, 1103, 1104, 1127, 1128, 1129, 1130, 1131, 1132, 1133, 1134, 1135, 1136, 1137, 1138, 1139, 1140, 1150, 1151, 1152] (by decide +kernel) (by decide +kernel)
set_option maxRecDepth 20000 in
theorem gL_law_X5_nights : GoodIn wsL_law (wsV RL 77 RX5 yX5_nights wsX5_nights) := goodIn_app (goodIn_of _ (by decide +kernel)) ggL_law_X5_nights
set_option maxRecDepth 20000 in
theorem ggL_law_X6_nights : GoodIn wsL_law wsX6_nights := goodIn_r _ [466, 129, 282, 133, 134, 5, 135, 143, 144, 145, 146, 93, 467, 468, 469, 470, 90, 471, 472, 473, 474, 475, 476, 477, 478, 346, 347, 348, 349, 168, 169, 170, 171, 102, 103, 104, 325, 326, 327, 328, 329, 330, 331, 332, 321, 322, 323, 324, 241, 242, 243, 244, 214, 215, 216, 217, 218, 219, 220, 221, 222, 223, 224, 225, 226, 227, 479, 480, 481, 482, 483, 484, 485, 388, 389, 390, 391, 139, 140, 141, 142, 392, 393, 394, 395, 265, 254, 255, 256, 409, 410, 411, 412, 363, 364, 365, 366, 486, 487, 488, 489, 261, 262, 263, 264, 1105, 1106, 1107, 1108, 1109, 1110, 1111, 1112, 1113, 1114, 1115, 1116, 1117, 1118, 1119, 1120, 1121, 1122, 1123, 1124, 1125, 1126] (by decide +kernel) (by decide +kernel)
set_option maxRecDepth 20000 in
theorem gL_law_X6_nights : GoodIn wsL_law (wsV RL 80 RX6 yX6_nights wsX6_nights) := goodIn_app (goodIn_of _ (by decide +kernel)) ggL_law_X6_nights
set_option maxRecDepth 20000 in
theorem ggL_law_X5_now : GoodIn wsL_law wsX5_now := goodIn_r _ [493, 15, 109, 421, 426, 494, 197, 495, 371, 313, 314, 20, 315, 50, 496, 497, 498, 499, 49, 120, 121, 122, 2, 123, 29, 124, 1098, 1099, 1100, 1101, 1102, 1103, 1104, 1127, 1128, 1129, 1130, 1131, 1132, 1133, 1134, 1135, 1136, 1137, 1138, 1139, 1140, 1150, 1151, 1152] (by decide +kernel) (by decide +kernel)
set_option maxRecDepth 20000 in
theorem gL_law_X5_now : GoodIn wsL_law (wsV RL 81 RX5 yX5_now wsX5_now) := goodIn_app (goodIn_of _ (by decide +kernel)) ggL_law_X5_now
set_option maxRecDepth 20000 in
theorem ggL_law_X6_now : GoodIn wsL_law wsX6_now := goodIn_r _ [503, 90, 265, 254, 255, 256, 129, 329, 330, 331, 5, 332, 168, 169, 170, 171, 102, 103, 104, 143, 144, 145, 146, 93, 1105, 1106, 1107, 1108, 1109, 1110, 1111, 1112, 1113, 1114, 1115, 1116, 1117, 1118, 1119, 1120, 1121, 1122, 1123, 1124, 1125, 1126] (by decide +kernel) (by decide +kernel)
set_option maxRecDepth 20000 in
theorem gL_law_X6_now : GoodIn wsL_law (wsV RL 84 RX6 yX6_now wsX6_now) := goodIn_app (goodIn_of _ (by decide +kernel)) ggL_law_X6_now
set_option maxRecDepth 20000 in
theorem ggL_law_X5_ahead : GoodIn wsL_law wsX5_ahead := goodIn_r _ [507, 21, 15, 109, 508, 114, 115, 2, 116, 120, 121, 122, 123, 29, 124, 417, 418, 419, 420, 421, 509, 510, 511, 20, 512, 48, 513, 437, 438, 439, 49, 50, 51, 52, 53, 54, 55, 56, 57, 514, 515, 516, 517, 518, 428, 429, 430, 519, 338, 339, 340, 312, 313, 314, 315, 341, 309, 310, 311, 316, 233, 234, 235, 236, 207, 208, 209, 520, 444, 445, 446, 447, 448, 449, 450, 451, 373, 374, 375, 376, 377, 378, 379, 253, 254, 255, 256, 452, 402, 403, 404, 453, 454, 455, 456, 457, 355, 356, 357, 458, 459, 460, 461, 462, 250, 251, 252, 371, 521, 522, 523, 524, 1098, 1099, 1100, 1101, 1102, 1103, 1104, 1127, 1128, 1129, 1130, 1131, 1132, 1133, 1134, 1135, 1136, 1137, 1138, 1139, 1140] (by decide +kernel) (by decide +kernel)
set_option maxRecDepth 20000 in
theorem gL_law_X5_ahead : GoodIn wsL_law (wsV RL 85 RX5 yX5_ahead wsX5_ahead) := goodIn_app (goodIn_of _ (by decide +kernel)) ggL_law_X5_ahead
set_option maxRecDepth 20000 in
theorem ggL_law_X6_ahead : GoodIn wsL_law wsX6_ahead := goodIn_r _ [528, 129, 282, 90, 92, 133, 134, 5, 135, 143, 144, 145, 146, 93, 467, 468, 469, 470, 529, 530, 531, 532, 533, 534, 535, 168, 169, 170, 171, 102, 103, 104, 214, 215, 216, 217, 218, 219, 220, 221, 222, 223, 224, 225, 226, 227, 471, 472, 473, 474, 475, 476, 477, 478, 346, 347, 348, 349, 325, 326, 327, 328, 329, 330, 331, 332, 321, 322, 323, 324, 241, 242, 243, 244, 479, 480, 481, 482, 483, 484, 485, 388, 389, 390, 391, 139, 140, 141, 142, 392, 393, 394, 395, 265, 254, 255, 256, 409, 410, 411, 412, 363, 364, 365, 366, 486, 487, 488, 489, 261, 262, 263, 264, 536, 537, 538, 539, 540, 541, 542, 543, 1105, 1106, 1107, 1108, 1109, 1110, 1111, 1112, 1113, 1114, 1115, 1116, 1117, 1118, 1119, 1120, 1121, 1122, 1123, 1124, 1125, 1126] (by decide +kernel) (by decide +kernel)
set_option maxRecDepth 20000 in
theorem gL_law_X6_ahead : GoodIn wsL_law (wsV RL 88 RX6 yX6_ahead wsX6_ahead) := goodIn_app (goodIn_of _ (by decide +kernel)) ggL_law_X6_ahead
set_option maxRecDepth 20000 in
theorem ggL_law_X5_struck : GoodIn wsL_law wsX5_struck := goodIn_r _ [547, 21, 15, 109, 417, 418, 419, 2, 420, 421, 120, 121, 122, 123, 29, 124, 509, 510, 511, 20, 512, 48, 513, 437, 438, 439, 49, 50, 51, 52, 53, 54, 55, 56, 57, 514, 515, 516, 517, 518, 428, 429, 430, 519, 338, 339, 340, 312, 313, 314, 315, 341, 309, 310, 311, 316, 233, 234, 235, 236, 207, 208, 209, 520, 444, 445, 446, 447, 448, 449, 450, 451, 373, 374, 375, 376, 377, 378, 379, 253, 254, 255, 256, 452, 402, 403, 404, 453, 454, 455, 456, 457, 355, 356, 357, 458, 459, 460, 461, 462, 250, 251, 252, 1098, 1099, 1100, 1101, 1102, 1103, 1104, 1127, 1128, 1129, 1130, 1131, 1132, 1133, 1134, 1135, 1136, 1137, 1138, 1139, 1140] (by decide +kernel) (by decide +kernel)
set_option maxRecDepth 20000 in
theorem gL_law_X5_struck : GoodIn wsL_law (wsV RL 89 RX5 yX5_struck wsX5_struck) := goodIn_app (goodIn_of _ (by decide +kernel)) ggL_law_X5_struck
set_option maxRecDepth 20000 in
theorem ggL_law_X6_struck : GoodIn wsL_law wsX6_struck := goodIn_r _ [551, 282, 90, 92, 362, 552, 553, 554, 5, 555, 467, 468, 469, 470, 143, 144, 145, 146, 93, 129, 529, 530, 531, 475, 476, 477, 478, 346, 347, 348, 349, 168, 169, 170, 171, 102, 103, 104, 325, 326, 327, 328, 329, 330, 331, 332, 321, 322, 323, 324, 241, 242, 243, 244, 214, 215, 216, 217, 218, 219, 220, 221, 222, 223, 224, 225, 226, 227, 479, 480, 481, 482, 483, 484, 485, 388, 389, 390, 391, 139, 140, 141, 142, 392, 393, 394, 395, 265, 254, 255, 256, 409, 410, 411, 412, 363, 364, 365, 366, 486, 487, 488, 489, 261, 262, 263, 264, 540, 541, 542, 543, 1105, 1106, 1107, 1108, 1109, 1110, 1111, 1112, 1113, 1114, 1115, 1116, 1117, 1118, 1119, 1120, 1121, 1122, 1123, 1124, 1125, 1126] (by decide +kernel) (by decide +kernel)
set_option maxRecDepth 20000 in
theorem gL_law_X6_struck : GoodIn wsL_law (wsV RL 93 RX6 yX6_struck wsX6_struck) := goodIn_app (goodIn_of _ (by decide +kernel)) ggL_law_X6_struck
set_option maxRecDepth 20000 in
theorem ggL_law_X5_empty : GoodIn wsL_law wsX5_empty := goodIn_r _ [559, 21, 15, 109, 417, 418, 419, 2, 420, 421, 120, 121, 122, 123, 29, 124, 509, 510, 511, 20, 512, 48, 513, 437, 438, 439, 49, 50, 51, 52, 53, 54, 55, 56, 57, 371, 313, 314, 315, 514, 515, 516, 517, 518, 428, 429, 430, 519, 338, 339, 340, 312, 341, 309, 310, 311, 316, 233, 234, 235, 236, 207, 208, 209, 520, 444, 445, 446, 447, 448, 449, 450, 451, 373, 374, 375, 376, 377, 378, 379, 253, 254, 255, 256, 452, 402, 403, 404, 453, 454, 455, 456, 457, 355, 356, 357, 458, 459, 460, 461, 462, 250, 251, 252, 1098, 1099, 1100, 1101, 1102, 1103, 1104, 1127, 1128, 1129, 1130, 1131, 1132, 1133, 1134, 1135, 1136, 1137, 1138, 1139, 1140] (by decide +kernel) (by decide +kernel)
set_option maxRecDepth 20000 in
theorem gL_law_X5_empty : GoodIn wsL_law (wsV RL 94 RX5 yX5_empty wsX5_empty) := goodIn_app (goodIn_of _ (by decide +kernel)) ggL_law_X5_empty
set_option maxRecDepth 20000 in
theorem ggL_law_X6_empty : GoodIn wsL_law wsX6_empty := goodIn_r _ [563, 282, 90, 92, 362, 552, 553, 554, 5, 555, 467, 468, 469, 470, 143, 144, 145, 146, 93, 129, 529, 530, 531, 536, 537, 538, 539, 329, 330, 331, 332, 168, 169, 170, 171, 102, 103, 104, 475, 476, 477, 478, 346, 347, 348, 349, 325, 326, 327, 328, 321, 322, 323, 324, 241, 242, 243, 244, 214, 215, 216, 217, 218, 219, 220, 221, 222, 223, 224, 225, 226, 227, 479, 480, 481, 482, 483, 484, 485, 388, 389, 390, 391, 139, 140, 141, 142, 392, 393, 394, 395, 265, 254, 255, 256, 409, 410, 411, 412, 363, 364, 365, 366, 486, 487, 488, 489, 261, 262, 263, 264, 540, 541, 542, 543, 1105, 1106, 1107, 1108, 1109, 1110, 1111, 1112, 1113, 1114, 1115, 1116, 1117, 1118, 1119, 1120, 1121, 1122, 1123, 1124, 1125, 1126] (by decide +kernel) (by decide +kernel)
set_option maxRecDepth 20000 in
theorem gL_law_X6_empty : GoodIn wsL_law (wsV RL 97 RX6 yX6_empty wsX6_empty) := goodIn_app (goodIn_of _ (by decide +kernel)) ggL_law_X6_empty
set_option maxRecDepth 20000 in
theorem ggL_law_X5_best : GoodIn wsL_law wsX5_best := goodIn_r _ [567, 15, 109, 188, 151, 152, 2, 153, 114, 115, 116, 120, 121, 122, 123, 29, 124, 417, 418, 419, 420, 421, 568, 569, 570, 571, 21, 572, 573, 574, 575, 509, 510, 511, 20, 512, 48, 513, 437, 438, 439, 49, 50, 51, 52, 53, 54, 55, 56, 57, 372, 373, 374, 375, 376, 377, 378, 379, 253, 254, 255, 256, 270, 271, 272, 273, 274, 275, 276, 277, 514, 515, 516, 517, 518, 428, 429, 430, 519, 338, 339, 340, 312, 313, 314, 315, 341, 309, 310, 311, 316, 233, 234, 235, 236, 207, 208, 209, 520, 444, 445, 446, 447, 448, 449, 450, 451, 452, 402, 403, 404, 453, 454, 455, 456, 457, 355, 356, 357, 458, 459, 460, 461, 462, 250, 251, 252, 521, 522, 523, 524, 1098, 1099, 1100, 1101, 1102, 1103, 1104, 1127, 1128, 1129, 1130, 1131, 1132, 1133, 1134, 1135, 1136, 1137, 1138, 1139, 1140] (by decide +kernel) (by decide +kernel)
set_option maxRecDepth 20000 in
theorem gL_law_X5_best : GoodIn wsL_law (wsV RL 98 RX5 yX5_best wsX5_best) := goodIn_app (goodIn_of _ (by decide +kernel)) ggL_law_X5_best
set_option maxRecDepth 20000 in
theorem ggL_law_X6_best : GoodIn wsL_law wsX6_best := goodIn_r _ [579, 580, 581, 582, 583, 5, 584, 282, 162, 163, 164, 133, 134, 135, 585, 586, 587, 588, 129, 467, 468, 469, 470, 90, 168, 169, 170, 171, 102, 103, 104, 143, 144, 145, 146, 93, 589, 590, 591, 592, 92, 593, 529, 530, 531, 388, 389, 390, 391, 139, 140, 141, 142, 392, 393, 394, 395, 265, 254, 255, 256, 594, 595, 596, 597, 290, 291, 292, 293, 598, 599, 600, 601, 471, 472, 473, 474, 475, 476, 477, 478, 346, 347, 348, 349, 325, 326, 327, 328, 329, 330, 331, 332, 321, 322, 323, 324, 241, 242, 243, 244, 214, 215, 216, 217, 218, 219, 220, 221, 222, 223, 224, 225, 226, 227, 479, 480, 481, 482, 483, 484, 485, 409, 410, 411, 412, 363, 364, 365, 366, 486, 487, 488, 489, 261, 262, 263, 264, 532, 533, 534, 535, 1105, 1106, 1107, 1108, 1109, 1110, 1111, 1112, 1113, 1114, 1115, 1116, 1117, 1118, 1119, 1120, 1121, 1122, 1123, 1124, 1125, 1126] (by decide +kernel) (by decide +kernel)
set_option maxRecDepth 20000 in
theorem gL_law_X6_best : GoodIn wsL_law (wsV RL 101 RX6 yX6_best wsX6_best) := goodIn_app (goodIn_of _ (by decide +kernel)) ggL_law_X6_best
set_option maxRecDepth 20000 in
theorem ggL_law_X5_gain : GoodIn wsL_law wsX5_gain := goodIn_r _ [605, 15, 109, 188, 21, 151, 152, 2, 153, 114, 115, 116, 120, 121, 122, 123, 29, 124, 417, 418, 419, 420, 421, 568, 569, 570, 571, 572, 573, 574, 575, 509, 510, 511, 20, 512, 48, 513, 437, 438, 439, 49, 50, 51, 52, 53, 54, 55, 56, 57, 372, 373, 374, 375, 376, 377, 378, 379, 253, 254, 255, 256, 270, 271, 272, 273, 274, 275, 276, 277, 514, 515, 516, 517, 518, 428, 429, 430, 519, 338, 339, 340, 312, 313, 314, 315, 341, 309, 310, 311, 316, 233, 234, 235, 236, 207, 208, 209, 520, 444, 445, 446, 447, 448, 449, 450, 451, 452, 402, 403, 404, 453, 454, 455, 456, 457, 355, 356, 357, 458, 459, 460, 461, 462, 250, 251, 252, 521, 522, 523, 524, 1098, 1099, 1100, 1101, 1102, 1103, 1104, 1127, 1128, 1129, 1130, 1131, 1132, 1133, 1134, 1135, 1136, 1137, 1138, 1139, 1140] (by decide +kernel) (by decide +kernel)
set_option maxRecDepth 20000 in
theorem gL_law_X5_gain : GoodIn wsL_law (wsV RL 102 RX5 yX5_gain wsX5_gain) := goodIn_app (goodIn_of _ (by decide +kernel)) ggL_law_X5_gain
set_option maxRecDepth 20000 in
theorem ggL_law_X6_gain : GoodIn wsL_law wsX6_gain := goodIn_r _ [609, 593, 581, 582, 583, 5, 584, 282, 162, 163, 164, 133, 134, 135, 585, 586, 587, 588, 129, 467, 468, 469, 470, 90, 168, 169, 170, 171, 102, 103, 104, 143, 144, 145, 146, 93, 589, 590, 591, 592, 92, 580, 529, 530, 531, 388, 389, 390, 391, 139, 140, 141, 142, 392, 393, 394, 395, 265, 254, 255, 256, 594, 595, 596, 597, 290, 291, 292, 293, 598, 599, 600, 601, 471, 472, 473, 474, 475, 476, 477, 478, 346, 347, 348, 349, 325, 326, 327, 328, 329, 330, 331, 332, 321, 322, 323, 324, 241, 242, 243, 244, 214, 215, 216, 217, 218, 219, 220, 221, 222, 223, 224, 225, 226, 227, 479, 480, 481, 482, 483, 484, 485, 409, 410, 411, 412, 363, 364, 365, 366, 486, 487, 488, 489, 261, 262, 263, 264, 532, 533, 534, 535, 1105, 1106, 1107, 1108, 1109, 1110, 1111, 1112, 1113, 1114, 1115, 1116, 1117, 1118, 1119, 1120, 1121, 1122, 1123, 1124, 1125, 1126] (by decide +kernel) (by decide +kernel)
set_option maxRecDepth 20000 in
theorem gL_law_X6_gain : GoodIn wsL_law (wsV RL 105 RX6 yX6_gain wsX6_gain) := goodIn_app (goodIn_of _ (by decide +kernel)) ggL_law_X6_gain
set_option maxRecDepth 20000 in
theorem ggL_law_X5_greed : GoodIn wsL_law wsX5_greed := goodIn_r _ [613, 21, 15, 109, 187, 151, 152, 2, 153, 114, 115, 116, 120, 121, 122, 123, 29, 124, 417, 418, 419, 420, 421, 509, 510, 511, 20, 512, 48, 513, 437, 438, 439, 49, 50, 51, 52, 53, 54, 55, 56, 57, 514, 515, 516, 517, 518, 428, 429, 430, 519, 338, 339, 340, 312, 313, 314, 315, 341, 309, 310, 311, 316, 233, 234, 235, 236, 207, 208, 209, 520, 444, 445, 446, 447, 448, 449, 450, 451, 373, 374, 375, 376, 377, 378, 379, 253, 254, 255, 256, 452, 402, 403, 404, 453, 454, 455, 456, 457, 355, 356, 357, 458, 459, 460, 461, 462, 250, 251, 252, 521, 522, 523, 524, 1098, 1099, 1100, 1101, 1102, 1103, 1104, 1127, 1128, 1129, 1130, 1131, 1132, 1133, 1134, 1135, 1136, 1137, 1138, 1139, 1140] (by decide +kernel) (by decide +kernel)
set_option maxRecDepth 20000 in
theorem gL_law_X5_greed : GoodIn wsL_law (wsV RL 106 RX5 yX5_greed wsX5_greed) := goodIn_app (goodIn_of _ (by decide +kernel)) ggL_law_X5_greed
set_option maxRecDepth 20000 in
theorem ggL_law_X6_greed : GoodIn wsL_law wsX6_greed := goodIn_r _ [617, 90, 92, 618, 619, 255, 620, 162, 163, 5, 164, 133, 134, 135, 585, 586, 587, 588, 129, 282, 467, 468, 469, 470, 143, 144, 145, 146, 93, 529, 530, 531, 102, 103, 104, 598, 599, 600, 601, 471, 472, 473, 474, 475, 476, 477, 478, 346, 347, 348, 349, 168, 169, 170, 171, 325, 326, 327, 328, 329, 330, 331, 332, 321, 322, 323, 324, 241, 242, 243, 244, 214, 215, 216, 217, 218, 219, 220, 221, 222, 223, 224, 225, 226, 227, 479, 480, 481, 482, 483, 484, 485, 388, 389, 390, 391, 139, 140, 141, 142, 392, 393, 394, 395, 265, 254, 256, 409, 410, 411, 412, 363, 364, 365, 366, 486, 487, 488, 489, 261, 262, 263, 264, 532, 533, 534, 535, 1105, 1106, 1107, 1108, 1109, 1110, 1111, 1112, 1113, 1114, 1115, 1116, 1117, 1118, 1119, 1120, 1121, 1122, 1123, 1124, 1125, 1126] (by decide +kernel) (by decide +kernel)
set_option maxRecDepth 20000 in
theorem gL_law_X6_greed : GoodIn wsL_law (wsV RL 109 RX6 yX6_greed wsX6_greed) := goodIn_app (goodIn_of _ (by decide +kernel)) ggL_law_X6_greed
set_option maxRecDepth 20000 in
theorem ggL_law_X5_kindFor : GoodIn wsL_law wsX5_kindFor := goodIn_r _ [624, 21, 15, 109, 110, 111, 112, 2, 113, 114, 115, 116, 120, 121, 122, 123, 29, 124, 417, 418, 419, 420, 421, 509, 510, 511, 20, 512, 48, 513, 437, 438, 439, 49, 50, 51, 52, 53, 54, 55, 56, 57, 521, 522, 523, 524, 236, 207, 208, 209, 514, 515, 516, 517, 518, 428, 429, 430, 519, 338, 339, 340, 312, 313, 314, 315, 341, 309, 310, 311, 316, 233, 234, 235, 520, 444, 445, 446, 447, 448, 449, 450, 451, 373, 374, 375, 376, 377, 378, 379, 253, 254, 255, 256, 452, 402, 403, 404, 453, 454, 455, 456, 457, 355, 356, 357, 458, 459, 460, 461, 462, 250, 251, 252, 1098, 1099, 1100, 1101, 1102, 1103, 1104, 1127, 1128, 1129, 1130, 1131, 1132, 1133, 1134, 1135, 1136, 1137, 1138, 1139, 1140] (by decide +kernel) (by decide +kernel)
set_option maxRecDepth 20000 in
theorem gL_law_X5_kindFor : GoodIn wsL_law (wsV RL 110 RX5 yX5_kindFor wsX5_kindFor) := goodIn_app (goodIn_of _ (by decide +kernel)) ggL_law_X5_kindFor
set_option maxRecDepth 20000 in
theorem ggL_law_X6_kindFor : GoodIn wsL_law wsX6_kindFor := goodIn_r _ [628, 90, 92, 130, 131, 5, 132, 133, 134, 135, 585, 586, 587, 588, 129, 282, 467, 468, 469, 470, 143, 144, 145, 146, 93, 529, 530, 531, 532, 533, 534, 535, 168, 169, 170, 171, 102, 103, 104, 214, 215, 216, 217, 218, 219, 220, 221, 222, 223, 224, 225, 226, 227, 471, 472, 473, 474, 475, 476, 477, 478, 346, 347, 348, 349, 325, 326, 327, 328, 329, 330, 331, 332, 321, 322, 323, 324, 241, 242, 243, 244, 479, 480, 481, 482, 483, 484, 485, 388, 389, 390, 391, 139, 140, 141, 142, 392, 393, 394, 395, 265, 254, 255, 256, 409, 410, 411, 412, 363, 364, 365, 366, 486, 487, 488, 489, 261, 262, 263, 264, 1105, 1106, 1107, 1108, 1109, 1110, 1111, 1112, 1113, 1114, 1115, 1116, 1117, 1118, 1119, 1120, 1121, 1122, 1123, 1124, 1125, 1126] (by decide +kernel) (by decide +kernel)
set_option maxRecDepth 20000 in
theorem gL_law_X6_kindFor : GoodIn wsL_law (wsV RL 113 RX6 yX6_kindFor wsX6_kindFor) := goodIn_app (goodIn_of _ (by decide +kernel)) ggL_law_X6_kindFor
set_option maxRecDepth 20000 in
theorem ggL_law_X5_temptation : GoodIn wsL_law wsX5_temptation := goodIn_r _ [632, 21, 15, 109, 151, 152, 2, 153, 114, 115, 116, 120, 121, 122, 123, 29, 124, 417, 418, 419, 420, 421, 509, 510, 511, 20, 512, 48, 513, 437, 438, 439, 49, 50, 51, 52, 53, 54, 55, 56, 57, 372, 373, 374, 375, 376, 377, 378, 379, 253, 254, 255, 256, 521, 522, 523, 524, 236, 207, 208, 209, 514, 515, 516, 517, 518, 428, 429, 430, 519, 338, 339, 340, 312, 313, 314, 315, 341, 309, 310, 311, 316, 233, 234, 235, 520, 444, 445, 446, 447, 448, 449, 450, 451, 452, 402, 403, 404, 453, 454, 455, 456, 457, 355, 356, 357, 458, 459, 460, 461, 462, 250, 251, 252, 1098, 1099, 1100, 1101, 1102, 1103, 1104, 1127, 1128, 1129, 1130, 1131, 1132, 1133, 1134, 1135, 1136, 1137, 1138, 1139, 1140] (by decide +kernel) (by decide +kernel)
set_option maxRecDepth 20000 in
theorem gL_law_X5_temptation : GoodIn wsL_law (wsV RL 114 RX5 yX5_temptation wsX5_temptation) := goodIn_app (goodIn_of _ (by decide +kernel)) ggL_law_X5_temptation
set_option maxRecDepth 20000 in
theorem ggL_law_X6_temptation : GoodIn wsL_law wsX6_temptation := goodIn_r _ [636, 90, 92, 162, 163, 5, 164, 133, 134, 135, 585, 586, 587, 588, 129, 282, 467, 468, 469, 470, 143, 144, 145, 146, 93, 529, 530, 531, 598, 599, 600, 601, 471, 472, 473, 474, 475, 476, 477, 478, 346, 347, 348, 349, 168, 169, 170, 171, 102, 103, 104, 325, 326, 327, 328, 329, 330, 331, 332, 321, 322, 323, 324, 241, 242, 243, 244, 214, 215, 216, 217, 218, 219, 220, 221, 222, 223, 224, 225, 226, 227, 479, 480, 481, 482, 483, 484, 485, 388, 389, 390, 391, 139, 140, 141, 142, 392, 393, 394, 395, 265, 254, 255, 256, 409, 410, 411, 412, 363, 364, 365, 366, 486, 487, 488, 489, 261, 262, 263, 264, 532, 533, 534, 535, 384, 385, 386, 387, 540, 541, 542, 543, 1105, 1106, 1107, 1108, 1109, 1110, 1111, 1112, 1113, 1114, 1115, 1116, 1117, 1118, 1119, 1120, 1121, 1122, 1123, 1124, 1125, 1126] (by decide +kernel) (by decide +kernel)
set_option maxRecDepth 20000 in
theorem gL_law_X6_temptation : GoodIn wsL_law (wsV RL 117 RX6 yX6_temptation wsX6_temptation) := goodIn_app (goodIn_of _ (by decide +kernel)) ggL_law_X6_temptation
set_option maxRecDepth 20000 in
theorem ggL_law_X5_bundle : GoodIn wsL_law wsX5_bundle := goodIn_r _ [640, 641, 642, 643, 2, 644, 15, 109, 299, 206, 207, 208, 20, 209, 51, 48, 54, 120, 121, 122, 123, 29, 124, 1098, 1099, 1100, 1101, 1102, 1103, 1104, 1127, 1128, 1129, 1130, 1131, 1132, 1133, 1134, 1135, 1136, 1137, 1138, 1139, 1140] (by decide +kernel) (by decide +kernel)
set_option maxRecDepth 20000 in
theorem gL_law_X5_bundle : GoodIn wsL_law (wsV RL 118 RX5 yX5_bundle wsX5_bundle) := goodIn_app (goodIn_of _ (by decide +kernel)) ggL_law_X5_bundle
set_option maxRecDepth 20000 in
theorem ggL_law_X6_bundle : GoodIn wsL_law wsX6_bundle := goodIn_r _ [648, 362, 168, 169, 170, 5, 171, 90, 102, 103, 104, 214, 215, 216, 217, 218, 219, 220, 221, 222, 223, 224, 225, 226, 227, 143, 144, 145, 146, 93, 129, 1105, 1106, 1107, 1108, 1109, 1110, 1111, 1112, 1113, 1114, 1115, 1116, 1117, 1118, 1119, 1120, 1121, 1122, 1123, 1124, 1125, 1126] (by decide +kernel) (by decide +kernel)
set_option maxRecDepth 20000 in
theorem gL_law_X6_bundle : GoodIn wsL_law (wsV RL 121 RX6 yX6_bundle wsX6_bundle) := goodIn_app (goodIn_of _ (by decide +kernel)) ggL_law_X6_bundle
set_option maxRecDepth 20000 in
theorem ggL_law_X5_book : GoodIn wsL_law wsX5_book := goodIn_r _ [652, 15, 426, 494, 114, 115, 2, 116, 120, 121, 122, 123, 29, 124, 653, 654, 655, 40, 656, 66, 67, 657, 658, 659, 660, 1098, 1099, 1100, 1101, 1102, 1103, 1104, 1127, 1128, 1129, 1130, 1150, 1151, 1152] (by decide +kernel) (by decide +kernel)
set_option maxRecDepth 20000 in
theorem gL_law_X5_book : GoodIn wsL_law (wsV RL 122 RX5 yX5_book wsX5_book) := goodIn_app (goodIn_of _ (by decide +kernel)) ggL_law_X5_book
set_option maxRecDepth 20000 in
theorem ggL_law_X6_book : GoodIn wsL_law wsX6_book := goodIn_r _ [664, 129, 362, 90, 133, 134, 5, 135, 143, 144, 145, 146, 93, 665, 666, 667, 668, 265, 254, 255, 256, 483, 484, 485, 1105, 1106, 1107, 1108, 1109, 1110, 1111, 1112, 1113, 1114, 1115, 1116, 1117, 1118, 1119, 1120, 1121, 1122, 1123, 1124, 1125, 1126] (by decide +kernel) (by decide +kernel)
set_option maxRecDepth 20000 in
theorem gL_law_X6_book : GoodIn wsL_law (wsV RL 125 RX6 yX6_book wsX6_book) := goodIn_app (goodIn_of _ (by decide +kernel)) ggL_law_X6_book
set_option maxRecDepth 20000 in
theorem ggL_law_X5_fits : GoodIn wsL_law wsX5_fits := goodIn_r _ [672, 151, 152, 2, 153, 114, 115, 116, 111, 112, 113, 120, 121, 122, 123, 29, 124, 673, 674, 675, 676, 21, 15, 109, 677, 509, 510, 511, 20, 512, 48, 513, 437, 438, 439, 49, 50, 51, 52, 53, 54, 55, 56, 57, 678, 679, 680, 681, 426, 494, 653, 654, 655, 40, 656, 66, 67, 657, 658, 659, 660, 682, 683, 684, 685, 337, 338, 339, 340, 312, 313, 314, 315, 341, 309, 310, 311, 316, 233, 234, 235, 236, 207, 208, 209, 1098, 1099, 1100, 1101, 1102, 1103, 1104, 1127, 1128, 1129, 1130, 1131, 1132, 1133, 1134, 1135, 1136, 1137, 1138, 1139, 1140, 1150, 1151, 1152] (by decide +kernel) (by decide +kernel)
set_option maxRecDepth 20000 in
theorem gL_law_X5_fits : GoodIn wsL_law (wsV RL 126 RX5 yX5_fits wsX5_fits) := goodIn_app (goodIn_of _ (by decide +kernel)) ggL_law_X5_fits
set_option maxRecDepth 20000 in
theorem ggL_law_X6_fits : GoodIn wsL_law wsX6_fits := goodIn_r _ [689, 129, 162, 163, 5, 164, 133, 134, 135, 130, 131, 132, 102, 103, 104, 690, 691, 692, 693, 90, 694, 695, 696, 697, 665, 666, 667, 668, 265, 254, 255, 256, 483, 484, 485, 698, 699, 700, 701, 168, 169, 170, 171, 218, 219, 220, 221, 222, 223, 224, 225, 226, 227, 143, 144, 145, 146, 93, 1105, 1106, 1107, 1108, 1109, 1110, 1111, 1112, 1113, 1114, 1115, 1116, 1117, 1118, 1119, 1120, 1121, 1122, 1123, 1124, 1125, 1126] (by decide +kernel) (by decide +kernel)
set_option maxRecDepth 20000 in
theorem gL_law_X6_fits : GoodIn wsL_law (wsV RL 129 RX6 yX6_fits wsX6_fits) := goodIn_app (goodIn_of _ (by decide +kernel)) ggL_law_X6_fits
set_option maxRecDepth 20000 in
theorem ggL_law_X5_greeds : GoodIn wsL_law wsX5_greeds := goodIn_r _ [705, 21, 15, 109, 187, 151, 152, 2, 153, 114, 115, 116, 120, 121, 122, 123, 29, 124, 509, 510, 511, 20, 512, 48, 513, 437, 438, 439, 49, 50, 51, 52, 53, 54, 55, 56, 57, 678, 679, 680, 681, 426, 494, 653, 654, 655, 40, 656, 66, 67, 657, 658, 659, 660, 682, 683, 684, 685, 337, 338, 339, 340, 312, 313, 314, 315, 341, 309, 310, 311, 316, 233, 234, 235, 236, 207, 208, 209, 1098, 1099, 1100, 1101, 1102, 1103, 1104, 1127, 1128, 1129, 1130, 1131, 1132, 1133, 1134, 1135, 1136, 1137, 1138, 1139, 1140, 1150, 1151, 1152] (by decide +kernel) (by decide +kernel)
set_option maxRecDepth 20000 in
theorem gL_law_X5_greeds : GoodIn wsL_law (wsV RL 130 RX5 yX5_greeds wsX5_greeds) := goodIn_app (goodIn_of _ (by decide +kernel)) ggL_law_X5_greeds
set_option maxRecDepth 20000 in
theorem ggL_law_X6_greeds : GoodIn wsL_law wsX6_greeds := goodIn_r _ [709, 129, 162, 163, 5, 164, 133, 134, 135, 102, 103, 104, 690, 691, 692, 693, 90, 694, 695, 696, 697, 665, 666, 667, 668, 265, 254, 255, 256, 483, 484, 485, 698, 699, 700, 701, 168, 169, 170, 171, 218, 219, 220, 221, 222, 223, 224, 225, 226, 227, 143, 144, 145, 146, 93, 1105, 1106, 1107, 1108, 1109, 1110, 1111, 1112, 1113, 1114, 1115, 1116, 1117, 1118, 1119, 1120, 1121, 1122, 1123, 1124, 1125, 1126] (by decide +kernel) (by decide +kernel)
set_option maxRecDepth 20000 in
theorem gL_law_X6_greeds : GoodIn wsL_law (wsV RL 133 RX6 yX6_greeds wsX6_greeds) := goodIn_app (goodIn_of _ (by decide +kernel)) ggL_law_X6_greeds
set_option maxRecDepth 20000 in
theorem ggL_law_X5_known : GoodIn wsL_law wsX5_known := goodIn_r _ [713, 151, 152, 2, 153, 114, 115, 116, 120, 121, 122, 123, 29, 124, 673, 674, 675, 676, 21, 15, 109, 677, 509, 510, 511, 20, 512, 48, 513, 437, 438, 439, 49, 50, 51, 52, 53, 54, 55, 56, 57, 678, 679, 680, 681, 426, 494, 653, 654, 655, 40, 656, 66, 67, 657, 658, 659, 660, 682, 683, 684, 685, 337, 338, 339, 340, 312, 313, 314, 315, 341, 309, 310, 311, 316, 233, 234, 235, 236, 207, 208, 209, 714, 715, 716, 717, 718, 719, 720, 1098, 1099, 1100, 1101, 1102, 1103, 1104, 1127, 1128, 1129, 1130, 1131, 1132, 1133, 1134, 1135, 1136, 1137, 1138, 1139, 1140, 1150, 1151, 1152] (by decide +kernel) (by decide +kernel)
set_option maxRecDepth 20000 in
theorem gL_law_X5_known : GoodIn wsL_law (wsV RL 134 RX5 yX5_known wsX5_known) := goodIn_app (goodIn_of _ (by decide +kernel)) ggL_law_X5_known
set_option maxRecDepth 20000 in
theorem ggL_law_X6_known : GoodIn wsL_law wsX6_known := goodIn_r _ [724, 129, 162, 163, 5, 164, 133, 134, 135, 143, 144, 145, 146, 93, 102, 103, 104, 690, 691, 692, 693, 90, 694, 695, 696, 697, 665, 666, 667, 668, 265, 254, 255, 256, 483, 484, 485, 698, 699, 700, 701, 168, 169, 170, 171, 218, 219, 220, 221, 222, 223, 224, 225, 226, 227, 725, 726, 727, 1105, 1106, 1107, 1108, 1109, 1110, 1111, 1112, 1113, 1114, 1115, 1116, 1117, 1118, 1119, 1120, 1121, 1122, 1123, 1124, 1125, 1126] (by decide +kernel) (by decide +kernel)
set_option maxRecDepth 20000 in
theorem gL_law_X6_known : GoodIn wsL_law (wsV RL 137 RX6 yX6_known wsX6_known) := goodIn_app (goodIn_of _ (by decide +kernel)) ggL_law_X6_known
set_option maxRecDepth 20000 in
theorem ggL_law_X5_season : GoodIn wsL_law wsX5_season := goodIn_r _ [731, 15, 109, 197, 114, 115, 2, 116, 120, 121, 122, 123, 29, 124, 417, 418, 419, 420, 421, 732, 733, 734, 14, 735, 43, 736, 270, 271, 272, 20, 273, 49, 53, 50, 274, 275, 276, 277, 422, 423, 424, 425, 426, 427, 428, 429, 430, 55, 337, 338, 339, 340, 312, 313, 314, 315, 341, 309, 310, 311, 52, 316, 233, 234, 235, 236, 207, 208, 209, 51, 48, 54, 431, 432, 433, 40, 434, 66, 67, 435, 436, 437, 438, 439, 440, 441, 68, 442, 254, 255, 256, 443, 444, 445, 446, 447, 448, 449, 450, 56, 451, 373, 374, 375, 376, 377, 378, 379, 253, 452, 402, 403, 404, 453, 454, 455, 456, 457, 355, 356, 357, 458, 459, 460, 461, 57, 462, 250, 251, 252, 1098, 1099, 1100, 1101, 1102, 1103, 1104, 1127, 1128, 1129, 1130, 1131, 1132, 1133, 1134, 1135, 1136, 1137, 1138, 1139, 1140, 1150, 1151, 1152] (by decide +kernel) (by decide +kernel)
set_option maxRecDepth 20000 in
theorem gL_law_X5_season : GoodIn wsL_law (wsV RL 138 RX5 yX5_season wsX5_season) := goodIn_app (goodIn_of _ (by decide +kernel)) ggL_law_X5_season
set_option maxRecDepth 20000 in
theorem ggL_law_X6_season : GoodIn wsL_law wsX6_season := goodIn_r _ [740, 129, 282, 90, 133, 134, 5, 135, 143, 144, 145, 146, 93, 467, 468, 469, 470, 741, 742, 743, 744, 745, 286, 287, 288, 289, 168, 169, 170, 171, 102, 103, 104, 290, 291, 292, 293, 471, 472, 473, 474, 475, 476, 477, 478, 346, 347, 348, 349, 325, 326, 327, 328, 329, 330, 331, 332, 321, 322, 323, 324, 241, 242, 243, 244, 214, 215, 216, 217, 218, 219, 220, 221, 222, 223, 224, 225, 226, 227, 479, 480, 481, 482, 483, 484, 485, 388, 389, 390, 391, 139, 140, 141, 142, 392, 393, 394, 395, 265, 254, 255, 256, 409, 410, 411, 412, 363, 364, 365, 366, 486, 487, 488, 489, 261, 262, 263, 264, 1105, 1106, 1107, 1108, 1109, 1110, 1111, 1112, 1113, 1114, 1115, 1116, 1117, 1118, 1119, 1120, 1121, 1122, 1123, 1124, 1125, 1126] (by decide +kernel) (by decide +kernel)
set_option maxRecDepth 20000 in
theorem gL_law_X6_season : GoodIn wsL_law (wsV RL 141 RX6 yX6_season wsX6_season) := goodIn_app (goodIn_of _ (by decide +kernel)) ggL_law_X6_season
set_option maxRecDepth 20000 in
theorem ggL_law_X5_seed : GoodIn wsL_law wsX5_seed := goodIn_r _ [749, 15, 750, 1098, 1099, 1100, 1101, 1102, 1103, 1104, 1127, 1128, 1129, 1130] (by decide +kernel) (by decide +kernel)
set_option maxRecDepth 20000 in
theorem gL_law_X5_seed : GoodIn wsL_law (wsV RL 142 RX5 yX5_seed wsX5_seed) := goodIn_app (goodIn_of _ (by decide +kernel)) ggL_law_X5_seed
set_option maxRecDepth 20000 in
theorem ggL_law_X6_seed : GoodIn wsL_law wsX6_seed := goodIn_r _ [754, 139, 140, 141, 5, 142, 90, 1105, 1106, 1107, 1108, 1109, 1110, 1111, 1112, 1113, 1114, 1115, 1116, 1117, 1118, 1119, 1120, 1121, 1122, 1123, 1124, 1125, 1126] (by decide +kernel) (by decide +kernel)
set_option maxRecDepth 20000 in
theorem gL_law_X6_seed : GoodIn wsL_law (wsV RL 145 RX6 yX6_seed wsX6_seed) := goodIn_app (goodIn_of _ (by decide +kernel)) ggL_law_X6_seed
set_option maxRecDepth 20000 in
theorem ggL_law_X5_feed : GoodIn wsL_law wsX5_feed := goodIn_r _ [758, 25, 759, 114, 115, 2, 116, 120, 121, 122, 123, 29, 124, 760, 761, 762, 24, 763, 75, 74, 1098, 1099, 1100, 1101, 1102, 1103, 1104, 1141, 1142, 1143, 1144, 1145, 1146] (by decide +kernel) (by decide +kernel)
set_option maxRecDepth 20000 in
theorem gL_law_X5_feed : GoodIn wsL_law (wsV RL 146 RX5 yX5_feed wsX5_feed) := goodIn_app (goodIn_of _ (by decide +kernel)) ggL_law_X5_feed
set_option maxRecDepth 20000 in
theorem ggL_law_X6_feed : GoodIn wsL_law wsX6_feed := goodIn_r _ [767, 129, 768, 769, 94, 133, 134, 5, 135, 143, 144, 145, 146, 93, 1105, 1106, 1107, 1108, 1109, 1110, 1111, 1112, 1113, 1114, 1115, 1116, 1117, 1118, 1119, 1120, 1121, 1122, 1123, 1124, 1125, 1126] (by decide +kernel) (by decide +kernel)
set_option maxRecDepth 20000 in
theorem gL_law_X6_feed : GoodIn wsL_law (wsV RL 149 RX6 yX6_feed wsX6_feed) := goodIn_app (goodIn_of _ (by decide +kernel)) ggL_law_X6_feed
set_option maxRecDepth 20000 in
theorem ggL_law_X5_wipe : GoodIn wsL_law wsX5_wipe := goodIn_r _ [773, 25, 759, 1098, 1099, 1100, 1101, 1102, 1103, 1104, 1141, 1142, 1143, 1144, 1145, 1146] (by decide +kernel) (by decide +kernel)
set_option maxRecDepth 20000 in
theorem gL_law_X5_wipe : GoodIn wsL_law (wsV RL 150 RX5 yX5_wipe wsX5_wipe) := goodIn_app (goodIn_of _ (by decide +kernel)) ggL_law_X5_wipe
set_option maxRecDepth 20000 in
theorem ggL_law_X6_wipe : GoodIn wsL_law wsX6_wipe := goodIn_r _ [777, 768, 1105, 1106, 1107, 1108, 1109, 1110, 1111, 1112, 1113, 1114, 1115, 1116, 1117, 1118, 1119, 1120, 1121, 1122, 1123, 1124, 1125, 1126] (by decide +kernel) (by decide +kernel)
set_option maxRecDepth 20000 in
theorem gL_law_X6_wipe : GoodIn wsL_law (wsV RL 153 RX6 yX6_wipe wsX6_wipe) := goodIn_app (goodIn_of _ (by decide +kernel)) ggL_law_X6_wipe
set_option maxRecDepth 20000 in
theorem ggL_law_X5_text : GoodIn wsL_law wsX5_text := goodIn_r _ [781, 21, 15, 109, 25, 759, 509, 510, 511, 20, 512, 48, 513, 437, 438, 439, 49, 50, 51, 52, 53, 54, 55, 56, 57, 782, 783, 784, 24, 785, 78, 77, 76, 786, 787, 788, 789, 75, 74, 790, 791, 792, 793, 794, 795, 796, 797, 798, 799, 800, 801, 802, 803, 804, 805, 79, 806, 254, 255, 256, 807, 808, 809, 810, 811, 812, 813, 814, 815, 816, 817, 818, 819, 820, 821, 822, 823, 824, 825, 826, 827, 828, 829, 830, 831, 832, 833, 834, 835, 836, 837, 838, 839, 840, 841, 842, 843, 844, 845, 846, 847, 848, 849, 850, 851, 852, 853, 854, 855, 856, 857, 858, 859, 860, 861, 862, 863, 864, 865, 866, 867, 868, 869, 870, 871, 872, 873, 874, 875, 876, 877, 878, 879, 880, 881, 882, 883, 884, 885, 886, 887, 888, 889, 890, 177, 2, 178, 891, 155, 156, 157, 892, 893, 894, 895, 896, 1098, 1099, 1100, 1101, 1102, 1103, 1104, 1127, 1128, 1129, 1130, 1141, 1142, 1143, 1144, 1145, 1146, 1131, 1132, 1133, 1134, 1135, 1136, 1137, 1138, 1139, 1140] (by decide +kernel) (by decide +kernel)
set_option maxRecDepth 20000 in
theorem gL_law_X5_text : GoodIn wsL_law (wsV RL 154 RX5 yX5_text wsX5_text) := goodIn_app (goodIn_of _ (by decide +kernel)) ggL_law_X5_text
set_option maxRecDepth 20000 in
theorem ggL_law_X6_text : GoodIn wsL_law wsX6_text := goodIn_r _ [900, 901, 902, 903, 904, 905, 94, 906, 768, 90, 97, 907, 908, 909, 5, 910, 911, 265, 254, 255, 256, 912, 913, 914, 915, 133, 134, 135, 916, 917, 918, 919, 920, 921, 922, 923, 96, 924, 925, 926, 927, 928, 820, 821, 822, 823, 824, 825, 826, 827, 828, 829, 830, 929, 832, 833, 834, 835, 836, 837, 838, 839, 840, 841, 842, 843, 844, 845, 846, 847, 848, 849, 850, 851, 852, 853, 854, 855, 856, 857, 858, 859, 860, 861, 862, 863, 864, 865, 866, 867, 930, 931, 932, 933, 934, 935, 936, 937, 938, 939, 940, 941, 942, 943, 944, 945, 102, 103, 104, 1105, 1106, 1107, 1108, 1109, 1110, 1111, 1112, 1113, 1114, 1115, 1116, 1117, 1118, 1119, 1120, 1121, 1122, 1123, 1124, 1125, 1126] (by decide +kernel) (by decide +kernel)
set_option maxRecDepth 20000 in
theorem gL_law_X6_text : GoodIn wsL_law (wsV RL 157 RX6 yX6_text wsX6_text) := goodIn_app (goodIn_of _ (by decide +kernel)) ggL_law_X6_text
set_option maxRecDepth 20000 in
theorem ggL_law_X5_hold : GoodIn wsL_law wsX5_hold := goodIn_r _ [949, 15, 950, 114, 115, 2, 116, 120, 121, 122, 123, 29, 124, 1098, 1099, 1100, 1101, 1102, 1103, 1104, 1127, 1128, 1129, 1130] (by decide +kernel) (by decide +kernel)
set_option maxRecDepth 20000 in
theorem gL_law_X5_hold : GoodIn wsL_law (wsV RL 158 RX5 yX5_hold wsX5_hold) := goodIn_app (goodIn_of _ (by decide +kernel)) ggL_law_X5_hold
set_option maxRecDepth 20000 in
theorem ggL_law_X6_hold : GoodIn wsL_law wsX6_hold := goodIn_r _ [954, 129, 90, 955, 956, 5, 957, 133, 134, 135, 130, 131, 132, 143, 144, 145, 146, 93, 1105, 1106, 1107, 1108, 1109, 1110, 1111, 1112, 1113, 1114, 1115, 1116, 1117, 1118, 1119, 1120, 1121, 1122, 1123, 1124, 1125, 1126] (by decide +kernel) (by decide +kernel)
set_option maxRecDepth 20000 in
theorem gL_law_X6_hold : GoodIn wsL_law (wsV RL 161 RX6 yX6_hold wsX6_hold) := goodIn_app (goodIn_of _ (by decide +kernel)) ggL_law_X6_hold
set_option maxRecDepth 20000 in
theorem ggL_law_X5_as : GoodIn wsL_law wsX5_as := goodIn_r _ [961, 15, 950, 109, 110, 114, 115, 2, 116, 117, 118, 119, 120, 121, 122, 123, 29, 124, 111, 112, 113, 962, 963, 964, 965, 1098, 1099, 1100, 1101, 1102, 1103, 1104, 1127, 1128, 1129, 1130, 1131, 1132, 1133, 1134, 1135, 1136, 1137, 1138, 1139, 1140] (by decide +kernel) (by decide +kernel)
set_option maxRecDepth 20000 in
theorem gL_law_X5_as : GoodIn wsL_law (wsV RL 162 RX5 yX5_as wsX5_as) := goodIn_app (goodIn_of _ (by decide +kernel)) ggL_law_X5_as
set_option maxRecDepth 20000 in
theorem ggL_law_X6_as : GoodIn wsL_law wsX6_as := goodIn_r _ [969, 129, 90, 970, 971, 955, 956, 5, 957, 133, 134, 135, 136, 137, 138, 143, 144, 145, 146, 93, 222, 223, 224, 225, 226, 227, 1105, 1106, 1107, 1108, 1109, 1110, 1111, 1112, 1113, 1114, 1115, 1116, 1117, 1118, 1119, 1120, 1121, 1122, 1123, 1124, 1125, 1126] (by decide +kernel) (by decide +kernel)
set_option maxRecDepth 20000 in
theorem gL_law_X6_as : GoodIn wsL_law (wsV RL 165 RX6 yX6_as wsX6_as) := goodIn_app (goodIn_of _ (by decide +kernel)) ggL_law_X6_as
set_option maxRecDepth 20000 in
theorem ggL_law_X5_sheet : GoodIn wsL_law wsX5_sheet := goodIn_r _ [975, 27, 976, 977, 2, 978, 114, 115, 116, 120, 121, 122, 123, 29, 124, 979, 980, 981, 31, 982, 84, 85, 83, 983, 59, 60, 61, 1098, 1099, 1100, 1101, 1102, 1103, 1104, 1147, 1148, 1149] (by decide +kernel) (by decide +kernel)
set_option maxRecDepth 20000 in
theorem gL_law_X5_sheet : GoodIn wsL_law (wsV RL 166 RX5 yX5_sheet wsX5_sheet) := goodIn_app (goodIn_of _ (by decide +kernel)) ggL_law_X5_sheet
set_option maxRecDepth 20000 in
theorem ggL_law_X6_sheet : GoodIn wsL_law wsX6_sheet := goodIn_r _ [987, 129, 988, 98, 99, 100, 989, 990, 5, 991, 133, 134, 135, 143, 144, 145, 146, 93, 1105, 1106, 1107, 1108, 1109, 1110, 1111, 1112, 1113, 1114, 1115, 1116, 1117, 1118, 1119, 1120, 1121, 1122, 1123, 1124, 1125, 1126] (by decide +kernel) (by decide +kernel)
set_option maxRecDepth 20000 in
theorem gL_law_X6_sheet : GoodIn wsL_law (wsV RL 169 RX6 yX6_sheet wsX6_sheet) := goodIn_app (goodIn_of _ (by decide +kernel)) ggL_law_X6_sheet
set_option maxRecDepth 20000 in
theorem ggL_law_X5_write : GoodIn wsL_law wsX5_write := goodIn_r _ [995, 27, 996, 976, 977, 2, 978, 114, 115, 116, 120, 121, 122, 123, 29, 124, 997, 998, 999, 31, 1000, 84, 1001, 1002, 1003, 1004, 83, 1098, 1099, 1100, 1101, 1102, 1103, 1104, 1147, 1148, 1149] (by decide +kernel) (by decide +kernel)
set_option maxRecDepth 20000 in
theorem gL_law_X5_write : GoodIn wsL_law (wsV RL 170 RX5 yX5_write wsX5_write) := goodIn_app (goodIn_of _ (by decide +kernel)) ggL_law_X5_write
set_option maxRecDepth 20000 in
theorem ggL_law_X6_write : GoodIn wsL_law wsX6_write := goodIn_r _ [1008, 129, 98, 970, 99, 100, 989, 990, 5, 991, 133, 134, 135, 143, 144, 145, 146, 93, 1009, 1010, 1011, 1105, 1106, 1107, 1108, 1109, 1110, 1111, 1112, 1113, 1114, 1115, 1116, 1117, 1118, 1119, 1120, 1121, 1122, 1123, 1124, 1125, 1126] (by decide +kernel) (by decide +kernel)
set_option maxRecDepth 20000 in
theorem gL_law_X6_write : GoodIn wsL_law (wsV RL 173 RX6 yX6_write wsX6_write) := goodIn_app (goodIn_of _ (by decide +kernel)) ggL_law_X6_write
set_option maxRecDepth 20000 in
theorem ggL_law_X5_copy : GoodIn wsL_law wsX5_copy := goodIn_r _ [1015, 27, 1016, 1017, 1018, 437, 438, 439, 976, 977, 2, 978, 114, 115, 116, 120, 121, 122, 123, 29, 124, 997, 998, 999, 31, 1000, 84, 1019, 1020, 1021, 1022, 85, 1098, 1099, 1100, 1101, 1102, 1103, 1104, 1147, 1148, 1149] (by decide +kernel) (by decide +kernel)
set_option maxRecDepth 20000 in
theorem gL_law_X5_copy : GoodIn wsL_law (wsV RL 174 RX5 yX5_copy wsX5_copy) := goodIn_app (goodIn_of _ (by decide +kernel)) ggL_law_X5_copy
set_option maxRecDepth 20000 in
theorem ggL_law_X6_copy : GoodIn wsL_law wsX6_copy := goodIn_r _ [1026, 129, 98, 970, 971, 99, 101, 100, 989, 990, 5, 991, 133, 134, 135, 143, 144, 145, 146, 93, 1105, 1106, 1107, 1108, 1109, 1110, 1111, 1112, 1113, 1114, 1115, 1116, 1117, 1118, 1119, 1120, 1121, 1122, 1123, 1124, 1125, 1126] (by decide +kernel) (by decide +kernel)
set_option maxRecDepth 20000 in
theorem gL_law_X6_copy : GoodIn wsL_law (wsV RL 178 RX6 yX6_copy wsX6_copy) := goodIn_app (goodIn_of _ (by decide +kernel)) ggL_law_X6_copy
set_option maxRecDepth 20000 in
theorem ggL_law_X5_load : GoodIn wsL_law wsX5_load := goodIn_r _ [1030, 27, 996, 1017, 15, 109, 677, 976, 977, 2, 978, 114, 115, 116, 120, 121, 122, 123, 29, 124, 997, 998, 999, 31, 1000, 84, 1098, 1099, 1100, 1101, 1102, 1103, 1104, 1147, 1148, 1149, 1127, 1128, 1129, 1130, 1131, 1132, 1133, 1134, 1135, 1136, 1137, 1138, 1139, 1140] (by decide +kernel) (by decide +kernel)
set_option maxRecDepth 20000 in
theorem gL_law_X5_load : GoodIn wsL_law (wsV RL 179 RX5 yX5_load wsX5_load) := goodIn_app (goodIn_of _ (by decide +kernel)) ggL_law_X5_load
set_option maxRecDepth 20000 in
theorem ggL_law_X6_load : GoodIn wsL_law wsX6_load := goodIn_r _ [1034, 129, 98, 970, 99, 100, 90, 989, 990, 5, 991, 133, 134, 135, 143, 144, 145, 146, 93, 130, 131, 132, 102, 103, 104, 1105, 1106, 1107, 1108, 1109, 1110, 1111, 1112, 1113, 1114, 1115, 1116, 1117, 1118, 1119, 1120, 1121, 1122, 1123, 1124, 1125, 1126] (by decide +kernel) (by decide +kernel)
set_option maxRecDepth 20000 in
theorem gL_law_X6_load : GoodIn wsL_law (wsV RL 182 RX6 yX6_load wsX6_load) := goodIn_app (goodIn_of _ (by decide +kernel)) ggL_law_X6_load
set_option maxRecDepth 20000 in
theorem ggL_law_X5_judge : GoodIn wsL_law wsX5_judge := goodIn_r _ [1038, 27, 996, 21, 15, 109, 1017, 976, 977, 2, 978, 114, 115, 116, 120, 121, 122, 123, 29, 124, 997, 998, 999, 31, 1000, 84, 417, 418, 419, 420, 421, 509, 510, 511, 20, 512, 48, 513, 437, 438, 439, 49, 50, 51, 52, 53, 54, 55, 56, 57, 427, 428, 429, 430, 337, 338, 339, 340, 312, 313, 314, 315, 341, 309, 310, 311, 316, 233, 234, 235, 236, 207, 208, 209, 443, 444, 445, 446, 447, 448, 449, 450, 451, 373, 374, 375, 376, 377, 378, 379, 253, 254, 255, 256, 452, 402, 403, 404, 453, 454, 455, 456, 457, 355, 356, 357, 458, 459, 460, 461, 462, 250, 251, 252, 1098, 1099, 1100, 1101, 1102, 1103, 1104, 1147, 1148, 1149, 1127, 1128, 1129, 1130, 1131, 1132, 1133, 1134, 1135, 1136, 1137, 1138, 1139, 1140] (by decide +kernel) (by decide +kernel)
set_option maxRecDepth 20000 in
theorem gL_law_X5_judge : GoodIn wsL_law (wsV RL 183 RX5 yX5_judge wsX5_judge) := goodIn_app (goodIn_of _ (by decide +kernel)) ggL_law_X5_judge
set_option maxRecDepth 20000 in
theorem ggL_law_X6_judge : GoodIn wsL_law wsX6_judge := goodIn_r _ [1042, 129, 98, 970, 99, 282, 90, 92, 100, 989, 990, 5, 991, 133, 134, 135, 143, 144, 145, 146, 93, 467, 468, 469, 470, 529, 530, 531, 475, 476, 477, 478, 346, 347, 348, 349, 168, 169, 170, 171, 102, 103, 104, 325, 326, 327, 328, 329, 330, 331, 332, 321, 322, 323, 324, 241, 242, 243, 244, 214, 215, 216, 217, 218, 219, 220, 221, 222, 223, 224, 225, 226, 227, 479, 480, 481, 482, 483, 484, 485, 388, 389, 390, 391, 139, 140, 141, 142, 392, 393, 394, 395, 265, 254, 255, 256, 409, 410, 411, 412, 363, 364, 365, 366, 486, 487, 488, 489, 261, 262, 263, 264, 540, 541, 542, 543, 1105, 1106, 1107, 1108, 1109, 1110, 1111, 1112, 1113, 1114, 1115, 1116, 1117, 1118, 1119, 1120, 1121, 1122, 1123, 1124, 1125, 1126] (by decide +kernel) (by decide +kernel)
set_option maxRecDepth 20000 in
theorem gL_law_X6_judge : GoodIn wsL_law (wsV RL 186 RX6 yX6_judge wsX6_judge) := goodIn_app (goodIn_of _ (by decide +kernel)) ggL_law_X6_judge
set_option maxRecDepth 20000 in
theorem ggL_law_X5_image : GoodIn wsL_law wsX5_image := goodIn_r _ [1046, 16, 15, 17, 1047, 1048, 1049, 14, 1050, 37, 41, 42, 1051, 437, 438, 439, 43, 1052, 510, 511, 20, 512, 48, 513, 49, 50, 51, 52, 53, 54, 55, 56, 57, 1053, 1054, 1055, 40, 1056, 66, 436, 67, 68, 1098, 1099, 1100, 1101, 1102, 1103, 1104, 1127, 1128, 1129, 1130, 1131, 1132, 1133, 1134, 1135, 1136, 1137, 1138, 1139, 1140, 1150, 1151, 1152] (by decide +kernel) (by decide +kernel)
set_option maxRecDepth 20000 in
theorem gL_law_X5_image : GoodIn wsL_law (wsV RL 187 RX5 yX5_image wsX5_image) := goodIn_app (goodIn_of _ (by decide +kernel)) ggL_law_X5_image
set_option maxRecDepth 20000 in
theorem ggL_law_X6_image : GoodIn wsL_law wsX6_image := goodIn_r _ [1060, 90, 91, 1061, 529, 530, 5, 531, 1105, 1106, 1107, 1108, 1109, 1110, 1111, 1112, 1113, 1114, 1115, 1116, 1117, 1118, 1119, 1120, 1121, 1122, 1123, 1124, 1125, 1126] (by decide +kernel) (by decide +kernel)
set_option maxRecDepth 20000 in
theorem gL_law_X6_image : GoodIn wsL_law (wsV RL 190 RX6 yX6_image wsX6_image) := goodIn_app (goodIn_of _ (by decide +kernel)) ggL_law_X6_image
set_option maxRecDepth 20000 in
theorem ggL_law_X5_undo : GoodIn wsL_law wsX5_undo := goodIn_r _ [1065, 17, 15, 16, 109, 421, 120, 121, 122, 2, 123, 29, 124, 1047, 1048, 1049, 14, 1050, 37, 41, 42, 1051, 437, 438, 439, 43, 1052, 510, 511, 20, 512, 48, 513, 49, 50, 51, 52, 53, 54, 55, 56, 57, 1053, 1054, 1055, 40, 1056, 66, 436, 67, 68, 1098, 1099, 1100, 1101, 1102, 1103, 1104, 1127, 1128, 1129, 1130, 1131, 1132, 1133, 1134, 1135, 1136, 1137, 1138, 1139, 1140, 1150, 1151, 1152] (by decide +kernel) (by decide +kernel)
set_option maxRecDepth 20000 in
theorem gL_law_X5_undo : GoodIn wsL_law (wsV RL 191 RX5 yX5_undo wsX5_undo) := goodIn_app (goodIn_of _ (by decide +kernel)) ggL_law_X5_undo
set_option maxRecDepth 20000 in
theorem ggL_law_X6_undo : GoodIn wsL_law wsX6_undo := goodIn_r _ [1069, 1061, 362, 91, 90, 143, 144, 145, 5, 146, 93, 129, 529, 530, 531, 1105, 1106, 1107, 1108, 1109, 1110, 1111, 1112, 1113, 1114, 1115, 1116, 1117, 1118, 1119, 1120, 1121, 1122, 1123, 1124, 1125, 1126] (by decide +kernel) (by decide +kernel)
set_option maxRecDepth 20000 in
theorem gL_law_X6_undo : GoodIn wsL_law (wsV RL 194 RX6 yX6_undo wsX6_undo) := goodIn_app (goodIn_of _ (by decide +kernel)) ggL_law_X6_undo
set_option maxRecDepth 20000 in
theorem ggL_law_X5_tear : GoodIn wsL_law wsX5_tear := goodIn_r _ [1073, 17, 1098, 1099, 1100, 1101, 1102, 1103, 1104] (by decide +kernel) (by decide +kernel)
set_option maxRecDepth 20000 in
theorem gL_law_X5_tear : GoodIn wsL_law (wsV RL 195 RX5 yX5_tear wsX5_tear) := goodIn_app (goodIn_of _ (by decide +kernel)) ggL_law_X5_tear
set_option maxRecDepth 20000 in
theorem ggL_law_X6_tear : GoodIn wsL_law wsX6_tear := goodIn_r _ [1077, 1061, 1105, 1106, 1107, 1108, 1109, 1110, 1111, 1112, 1113, 1114, 1115, 1116, 1117, 1118, 1119, 1120, 1121, 1122, 1123, 1124, 1125, 1126] (by decide +kernel) (by decide +kernel)
set_option maxRecDepth 20000 in
theorem gL_law_X6_tear : GoodIn wsL_law (wsV RL 198 RX6 yX6_tear wsX6_tear) := goodIn_app (goodIn_of _ (by decide +kernel)) ggL_law_X6_tear
set_option maxRecDepth 20000 in
theorem ggL_law_X5_count : GoodIn wsL_law wsX5_count := goodIn_r _ [1081, 15, 109, 421, 495, 188, 508, 25, 759, 750, 371, 313, 314, 20, 315, 50, 1082, 1083, 1084, 14, 1085, 42, 120, 121, 122, 2, 123, 29, 124, 1098, 1099, 1100, 1101, 1102, 1103, 1104, 1127, 1128, 1129, 1130, 1131, 1132, 1133, 1134, 1135, 1136, 1137, 1138, 1139, 1140, 1141, 1142, 1143, 1144, 1145, 1146] (by decide +kernel) (by decide +kernel)
set_option maxRecDepth 20000 in
theorem gL_law_X5_count : GoodIn wsL_law (wsV RL 199 RX5 yX5_count wsX5_count) := goodIn_app (goodIn_of _ (by decide +kernel)) ggL_law_X5_count
set_option maxRecDepth 20000 in
theorem ggL_law_X6_count : GoodIn wsL_law wsX6_count := goodIn_r _ [1089, 90, 768, 129, 536, 537, 538, 5, 539, 329, 330, 331, 332, 168, 169, 170, 171, 102, 103, 104, 143, 144, 145, 146, 93, 1105, 1106, 1107, 1108, 1109, 1110, 1111, 1112, 1113, 1114, 1115, 1116, 1117, 1118, 1119, 1120, 1121, 1122, 1123, 1124, 1125, 1126] (by decide +kernel) (by decide +kernel)
set_option maxRecDepth 20000 in
theorem gL_law_X6_count : GoodIn wsL_law (wsV RL 202 RX6 yX6_count wsX6_count) := goodIn_app (goodIn_of _ (by decide +kernel)) ggL_law_X6_count
set_option maxRecDepth 20000 in
theorem ggL_law_X5_status : GoodIn wsL_law wsX5_status := goodIn_r _ [1093, 29, 114, 115, 2, 116, 120, 121, 122, 123, 124, 1098, 1099, 1100, 1101, 1102, 1103, 1104] (by decide +kernel) (by decide +kernel)
set_option maxRecDepth 20000 in
theorem gL_law_X5_status : GoodIn wsL_law (wsV RL 203 RX5 yX5_status wsX5_status) := goodIn_app (goodIn_of _ (by decide +kernel)) ggL_law_X5_status
set_option maxRecDepth 20000 in
theorem ggL_law_X6_status : GoodIn wsL_law wsX6_status := goodIn_r _ [1097, 93, 129, 133, 134, 5, 135, 143, 144, 145, 146, 1105, 1106, 1107, 1108, 1109, 1110, 1111, 1112, 1113, 1114, 1115, 1116, 1117, 1118, 1119, 1120, 1121, 1122, 1123, 1124, 1125, 1126] (by decide +kernel) (by decide +kernel)
set_option maxRecDepth 20000 in
theorem gL_law_X6_status : GoodIn wsL_law (wsV RL 206 RX6 yX6_status wsX6_status) := goodIn_app (goodIn_of _ (by decide +kernel)) ggL_law_X6_status
