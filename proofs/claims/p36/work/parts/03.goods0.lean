set_option maxRecDepth 100000 in
theorem ggX0_init_X6_init : GoodIn wsX0_init wsX6_init := goodIn_r _ [17, 18, 2, 3, 19, 20, 21, 22, 23, 28, 29, 30] rfl (by decide +kernel)
set_option maxRecDepth 100000 in
theorem gX0_init_X6_init_n11 : GoodIn wsX0_init (wsX6_init) := ggX0_init_X6_init
set_option maxRecDepth 100000 in
theorem ggX0_init_X7_init : GoodIn wsX0_init wsX7_init := goodIn_r _ [25, 26, 2, 3, 19, 27, 36, 37, 38] rfl (by decide +kernel)
set_option maxRecDepth 100000 in
theorem gX0_init_X7_init_n20 : GoodIn wsX0_init (wsX7_init) := ggX0_init_X7_init
set_option maxRecDepth 100000 in
theorem ggX0_holds_X0_forget : GoodIn wsX0_holds wsX0_forget := goodIn_r _ [11, 5, 6, 176, 177, 178, 179, 180] rfl (by decide +kernel)
set_option maxRecDepth 100000 in
theorem gX0_holds_X0_forget : GoodIn wsX0_holds (wsV RX0 36 RX0 yX0_forget wsX0_forget) := goodIn_app (goodIn_of _ (by decide +kernel)) ggX0_holds_X0_forget
set_option maxRecDepth 100000 in
theorem ggX0_holds_X2_fillFree : GoodIn wsX0_holds wsX2_fillFree := goodIn_r _ [16, 17, 18, 181, 182, 183, 184, 185, 186] rfl (by decide +kernel)
set_option maxRecDepth 100000 in
theorem gX0_holds_X2_fillFree : GoodIn wsX0_holds (wsV RX0 54 RX2 yX2_fillFree wsX2_fillFree) := goodIn_app (goodIn_of _ (by decide +kernel)) ggX0_holds_X2_fillFree
set_option maxRecDepth 100000 in
theorem ggX0_holds_X0_whyNot : GoodIn wsX0_holds wsX0_whyNot := goodIn_r _ [22, 3, 23, 4, 24, 25, 26, 27, 28, 1, 29, 30, 31, 32, 33, 34, 35, 36, 37, 10, 38, 39, 40, 41, 42, 43, 44, 45, 46, 47, 48, 49, 50, 51, 52, 53, 54, 55, 56, 57, 58, 59, 60, 61, 62, 63, 64, 65, 66, 67, 68, 69, 70, 71, 72, 73, 74, 75, 76, 77, 78, 79, 80, 81, 82, 83, 84, 85, 86, 87, 88, 89, 90, 91, 92, 93, 94, 95, 96, 97, 98, 99, 100, 101, 102, 103, 104, 105, 106, 107, 108, 109, 110, 111, 112, 113, 114, 115, 116, 117, 118, 119, 120, 121, 122, 123, 124, 125, 126, 127, 128, 129, 130, 131, 132, 133, 134, 135, 136, 137, 138, 139, 140, 141, 142, 143, 144, 145, 146, 147, 148, 149, 150, 151, 152, 153, 154, 155, 156, 157, 158, 159, 160, 161, 162, 163, 164, 165, 181, 182, 183, 184, 185, 186, 176, 177, 178, 179, 180, 187, 188, 189, 190, 191, 192, 166, 167, 168, 169, 170, 171, 172, 173, 174, 175] rfl (by decide +kernel)
set_option maxRecDepth 100000 in
theorem gX0_holds_X0_whyNot : GoodIn wsX0_holds (wsV RX0 60 RX0 yX0_whyNot wsX0_whyNot) := goodIn_app (goodIn_of _ (by decide +kernel)) ggX0_holds_X0_whyNot
set_option maxRecDepth 100000 in
theorem ggX0_whyNot_X9_hasFormat : GoodIn wsX0_whyNot wsX9_hasFormat := goodIn_r _ [15, 16, 139, 140, 141, 142, 143, 144, 145, 146, 147] rfl (by decide +kernel)
set_option maxRecDepth 100000 in
theorem gX0_whyNot_X9_hasFormat : GoodIn wsX0_whyNot (wsV RX0 67 RX9 yX9_hasFormat wsX9_hasFormat) := goodIn_app (goodIn_of _ (by decide +kernel)) ggX0_whyNot_X9_hasFormat
set_option maxRecDepth 100000 in
theorem ggX0_whyNot_X0_readLong : GoodIn wsX0_whyNot wsX0_readLong := goodIn_r _ [20, 21, 22, 23, 24, 25, 26, 27, 28, 29] rfl (by decide +kernel)
set_option maxRecDepth 100000 in
theorem gX0_whyNot_X0_readLong : GoodIn wsX0_whyNot (va_wsS RX0 75 yX0_readLong wsX0_readLong) := goodIn_app (goodIn_of _ (by decide +kernel)) ggX0_whyNot_X0_readLong
set_option maxRecDepth 100000 in
theorem ggX0_whyNot_X6_lowest : GoodIn wsX0_whyNot wsX6_lowest := goodIn_r _ [34, 35, 36, 24, 25, 26, 37, 38, 39, 33, 40, 41, 42, 43, 44, 45, 46, 47, 48, 49, 50, 51, 52, 53, 54, 55, 56, 57, 58, 59, 60, 61, 62, 63, 64, 28, 29, 65, 66, 67, 68, 69, 70, 71, 72, 73, 74, 75, 76, 77, 165, 166, 167, 168, 169, 170, 171, 172, 173, 174, 159, 160, 161] rfl (by decide +kernel)
set_option maxRecDepth 100000 in
theorem gX0_whyNot_X6_lowest : GoodIn wsX0_whyNot (wsV RX0 85 RX6 yX6_lowest wsX6_lowest) := goodIn_app (goodIn_of _ (by decide +kernel)) ggX0_whyNot_X6_lowest
set_option maxRecDepth 100000 in
theorem ggX0_whyNot_X6_highest : GoodIn wsX0_whyNot wsX6_highest := goodIn_r _ [81, 35, 77, 28, 25, 29, 54, 55, 56, 33, 57, 58, 42, 43, 44, 45, 46, 47, 48, 49, 50, 51, 52, 53, 37, 38, 39, 40, 41, 59, 60, 61, 62, 63, 24, 26, 64, 65, 66, 67, 68, 69, 70, 71, 72, 73, 74, 75, 76, 36, 165, 166, 167, 168, 169, 170, 171, 172, 173, 174, 159, 160, 161] rfl (by decide +kernel)
set_option maxRecDepth 100000 in
theorem gX0_whyNot_X6_highest : GoodIn wsX0_whyNot (wsV RX0 89 RX6 yX6_highest wsX6_highest) := goodIn_app (goodIn_of _ (by decide +kernel)) ggX0_whyNot_X6_highest
set_option maxRecDepth 100000 in
theorem ggX0_whyNot_X7_errorOf : GoodIn wsX0_whyNot wsX7_errorOf := goodIn_r _ [86, 87, 88, 89, 28, 25, 29, 90, 91, 92, 93, 94, 14, 95, 96, 97, 98, 99, 100, 101, 102, 103, 16, 104, 105, 106, 107, 85, 108, 109, 110, 43, 44, 45, 46, 47, 48, 111, 50, 51, 52, 53, 112, 60, 113, 114, 115, 116, 33, 117, 118, 119, 120, 41, 58, 77, 42, 49, 139, 140, 141, 142, 143, 144, 145, 146, 147, 165, 166, 167, 168, 169, 170, 171, 172, 173, 174, 148, 149, 150, 151, 152, 153, 162, 163, 164, 159, 160, 161] rfl (by decide +kernel)
set_option maxRecDepth 100000 in
theorem gX0_whyNot_X7_errorOf : GoodIn wsX0_whyNot (wsV RX0 92 RX7 yX7_errorOf wsX7_errorOf) := goodIn_app (goodIn_of _ (by decide +kernel)) ggX0_whyNot_X7_errorOf
set_option maxRecDepth 100000 in
theorem ggX0_whyNot_X6_amountOf : GoodIn wsX0_whyNot wsX6_amountOf := goodIn_r _ [124, 41, 118, 119, 25, 120, 58, 77, 28, 29, 159, 160, 161] rfl (by decide +kernel)
set_option maxRecDepth 100000 in
theorem gX0_whyNot_X6_amountOf : GoodIn wsX0_whyNot (wsV RX0 96 RX6 yX6_amountOf wsX6_amountOf) := goodIn_app (goodIn_of _ (by decide +kernel)) ggX0_whyNot_X6_amountOf
set_option maxRecDepth 100000 in
theorem ggX0_whyNot_X9_mostOf : GoodIn wsX0_whyNot wsX9_mostOf := goodIn_r _ [128, 16, 129, 139, 140, 141, 142, 143, 144, 145, 146, 147] rfl (by decide +kernel)
set_option maxRecDepth 100000 in
theorem gX0_whyNot_X9_mostOf : GoodIn wsX0_whyNot (wsV RX0 100 RX9 yX9_mostOf wsX9_mostOf) := goodIn_app (goodIn_of _ (by decide +kernel)) ggX0_whyNot_X9_mostOf
set_option maxRecDepth 100000 in
theorem ggX0_whyNot_X9_isAnswer : GoodIn wsX0_whyNot wsX9_isAnswer := goodIn_r _ [133, 96, 134, 135, 136, 137, 14, 138, 97, 139, 140, 141, 142, 143, 144, 145, 146, 147, 165, 166, 167, 168, 169, 170, 171, 172, 173, 174] rfl (by decide +kernel)
set_option maxRecDepth 100000 in
theorem gX0_whyNot_X9_isAnswer : GoodIn wsX0_whyNot (wsV RX0 104 RX9 yX9_isAnswer wsX9_isAnswer) := goodIn_app (goodIn_of _ (by decide +kernel)) ggX0_whyNot_X9_isAnswer
set_option maxRecDepth 100000 in
theorem ggX1_init_X7_init : GoodIn wsX1_init wsX7_init := goodIn_r _ [18, 19, 2, 3, 20, 21, 22, 23, 24] rfl (by decide +kernel)
set_option maxRecDepth 100000 in
theorem gX1_init_X7_init_n11 : GoodIn wsX1_init (wsX7_init) := ggX1_init_X7_init
set_option maxRecDepth 100000 in
theorem ggX1_search_X9_hasChoice : GoodIn wsX1_search wsX9_hasChoice := goodIn_r _ [12, 13, 14, 15, 16, 153, 154, 155, 156, 157, 158, 159, 160, 161, 162, 163, 164, 165, 166, 167, 168, 169, 170, 171, 172, 173, 174, 175, 176, 177] rfl (by decide +kernel)
set_option maxRecDepth 100000 in
theorem gX1_search_X9_hasChoice : GoodIn wsX1_search (wsV RX1 71 RX9 yX9_hasChoice wsX9_hasChoice) := goodIn_app (goodIn_of _ (by decide +kernel)) ggX1_search_X9_hasChoice
set_option maxRecDepth 100000 in
theorem ggX1_search_X1_searchAll : GoodIn wsX1_search wsX1_searchAll := goodIn_r _ [21, 3, 4, 22, 1, 2, 23, 24, 25, 26, 27, 28, 29, 30, 31, 32, 33, 34, 35, 36, 20, 37, 38, 39, 40, 41, 42, 43, 44, 45, 46, 47, 48, 49, 50, 51, 52, 53, 54, 55, 56, 57, 58, 59, 60, 61, 62, 63, 64, 65, 66, 67, 68, 69, 70, 71, 72, 73, 11, 74, 13, 14, 15, 75, 76, 77, 78, 79, 80, 81, 82, 83, 84, 85, 86, 87, 88, 89, 90, 91, 92, 93, 94, 95, 96, 97, 98, 99, 100, 101, 102, 103, 104, 105, 106, 107, 108, 109, 110, 111, 112, 113, 114, 115, 116, 117, 118, 119, 120, 121, 122, 123, 124, 125, 126, 127, 128, 129, 130, 131, 132, 133, 134, 135, 136, 137, 138, 139, 140, 141, 142, 143, 144, 145, 146, 147, 148, 149, 6, 150, 7, 151, 152, 153, 154, 155, 156, 157, 158, 159, 160, 161, 172, 173, 174, 175, 176, 177, 162, 163, 164, 165, 166, 167, 168, 169, 170, 171, 178, 179, 180, 181, 182, 183, 184, 185, 186, 187, 188, 189, 190, 191, 192, 193, 194, 195, 196, 197] rfl (by decide +kernel)
set_option maxRecDepth 100000 in
theorem gX1_search_X1_searchAll : GoodIn wsX1_search (wsV RX1 75 RX1 yX1_searchAll wsX1_searchAll) := goodIn_app (goodIn_of _ (by decide +kernel)) ggX1_search_X1_searchAll
set_option maxRecDepth 100000 in
theorem ggX1_searchAll_X4_countAnswers : GoodIn wsX1_searchAll wsX4_countAnswers := goodIn_r _ [14, 15, 16, 158, 159, 160, 161, 162, 163, 164, 165, 166, 167] rfl (by decide +kernel)
set_option maxRecDepth 100000 in
theorem gX1_searchAll_X4_countAnswers : GoodIn wsX1_searchAll (wsV RX1 82 RX4 yX4_countAnswers wsX4_countAnswers) := goodIn_app (goodIn_of _ (by decide +kernel)) ggX1_searchAll_X4_countAnswers
set_option maxRecDepth 100000 in
theorem ggX1_searchAll_X1_makeRoom : GoodIn wsX1_searchAll wsX1_makeRoom := goodIn_r _ [21, 22, 23, 24, 25, 26, 27, 6, 168, 169, 170, 171, 172, 173, 174, 175, 176, 177, 178, 179, 180, 181] rfl (by decide +kernel)
set_option maxRecDepth 100000 in
theorem gX1_searchAll_X1_makeRoom : GoodIn wsX1_searchAll (wsV RX1 89 RX1 yX1_makeRoom wsX1_makeRoom) := goodIn_app (goodIn_of _ (by decide +kernel)) ggX1_searchAll_X1_makeRoom
set_option maxRecDepth 100000 in
theorem ggX1_searchAll_X1_unfold : GoodIn wsX1_searchAll wsX1_unfold := goodIn_r _ [30, 1, 31, 32, 3, 143, 144, 145, 146, 147, 148, 149, 150, 151, 152, 153, 154, 155, 156, 157] rfl (by decide +kernel)
set_option maxRecDepth 100000 in
theorem gX1_searchAll_X1_unfold : GoodIn wsX1_searchAll (va_wsS RX1 93 yX1_unfold wsX1_unfold) := goodIn_app (goodIn_of _ (by decide +kernel)) ggX1_searchAll_X1_unfold
set_option maxRecDepth 100000 in
theorem ggX1_searchAll_X7_reckon : GoodIn wsX1_searchAll wsX7_reckon := goodIn_r _ [37, 38, 39, 40, 41, 42, 43, 44, 45, 46, 36, 47, 48, 49, 50, 51, 52, 53, 54, 55, 56, 57, 58, 59, 60, 61, 62, 63, 64, 65, 66, 67, 68, 69, 70, 71, 72, 73, 74, 75, 76, 13, 77, 15, 78, 79, 80, 81, 82, 83, 84, 85, 86, 87, 88, 89, 90, 91, 92, 93, 94, 95, 96, 97, 98, 99, 100, 101, 102, 103, 104, 105, 106, 107, 108, 109, 110, 111, 112, 113, 114, 115, 116, 117, 182, 183, 184, 143, 144, 145, 146, 147, 148, 149, 150, 151, 158, 159, 160, 161, 162, 163, 164, 165, 166, 167, 152, 153, 154, 155, 156, 157, 185, 186, 187] rfl (by decide +kernel)
set_option maxRecDepth 100000 in
theorem gX1_searchAll_X7_reckon : GoodIn wsX1_searchAll (wsV RX1 101 RX7 yX7_reckon wsX7_reckon) := goodIn_app (goodIn_of _ (by decide +kernel)) ggX1_searchAll_X7_reckon
set_option maxRecDepth 100000 in
theorem ggX1_searchAll_X9_priceOf : GoodIn wsX1_searchAll wsX9_priceOf := goodIn_r _ [121, 122, 60, 61, 123, 124, 125, 126, 58, 127, 128, 75, 76, 13, 77, 15, 78, 129, 56, 57, 59, 62, 63, 130, 131, 132, 133, 68, 143, 144, 145, 146, 147, 148, 149, 150, 151, 158, 159, 160, 161, 162, 163, 164, 165, 166, 167, 152, 153, 154, 155, 156, 157] rfl (by decide +kernel)
set_option maxRecDepth 100000 in
theorem gX1_searchAll_X9_priceOf : GoodIn wsX1_searchAll (wsV RX1 105 RX9 yX9_priceOf wsX9_priceOf) := goodIn_app (goodIn_of _ (by decide +kernel)) ggX1_searchAll_X9_priceOf
set_option maxRecDepth 100000 in
theorem ggX1_searchAll_X1_keep : GoodIn wsX1_searchAll wsX1_keep := goodIn_r _ [137, 138, 22, 6, 4, 5, 27, 8, 139, 140, 141, 142, 110, 111, 58, 112, 60, 113, 114, 115, 116, 117, 61, 168, 169, 170, 171, 172, 173, 174, 175, 176, 177, 178, 179, 180, 181, 143, 144, 145, 146, 147, 148, 149, 150, 151, 158, 159, 160, 161, 162, 163, 164, 165, 166, 167, 182, 183, 184] rfl (by decide +kernel)
set_option maxRecDepth 100000 in
theorem gX1_searchAll_X1_keep : GoodIn wsX1_searchAll (wsV RX1 109 RX1 yX1_keep wsX1_keep) := goodIn_app (goodIn_of _ (by decide +kernel)) ggX1_searchAll_X1_keep
set_option maxRecDepth 100000 in
theorem ggX1_keep_X9_isAnswer : GoodIn wsX1_keep wsX9_isAnswer := goodIn_r _ [15, 16, 17, 18, 19, 20, 14, 21, 22, 37, 38, 39, 40, 41, 42, 43, 44, 45, 46, 47, 48, 49, 50, 51, 52, 53, 54, 55] rfl (by decide +kernel)
set_option maxRecDepth 100000 in
theorem gX1_keep_X9_isAnswer : GoodIn wsX1_keep (wsV RX1 117 RX9 yX9_isAnswer wsX9_isAnswer) := goodIn_app (goodIn_of _ (by decide +kernel)) ggX1_keep_X9_isAnswer
set_option maxRecDepth 100000 in
theorem ggX1_leastWithin_X4_countAnswers : GoodIn wsX1_leastWithin wsX4_countAnswers := goodIn_r _ [9, 10, 11, 43, 44, 45, 46, 47, 48, 49, 50, 51, 52] rfl (by decide +kernel)
set_option maxRecDepth 100000 in
theorem gX1_leastWithin_X4_countAnswers : GoodIn wsX1_leastWithin (wsV RX1 82 RX4 yX4_countAnswers wsX4_countAnswers) := goodIn_app (goodIn_of _ (by decide +kernel)) ggX1_leastWithin_X4_countAnswers
set_option maxRecDepth 100000 in
theorem ggX1_leastWithin_X1_errorAt : GoodIn wsX1_leastWithin wsX1_errorAt := goodIn_r _ [16, 17, 18, 19, 29, 30, 31, 32, 33, 34, 35, 36, 37, 38, 39, 40, 41, 42] rfl (by decide +kernel)
set_option maxRecDepth 100000 in
theorem gX1_leastWithin_X1_errorAt : GoodIn wsX1_leastWithin (wsV RX1 130 RX1 yX1_errorAt wsX1_errorAt) := goodIn_app (goodIn_of _ (by decide +kernel)) ggX1_leastWithin_X1_errorAt
set_option maxRecDepth 100000 in
theorem ggX1_drawFront_X4_countAnswers : GoodIn wsX1_drawFront wsX4_countAnswers := goodIn_r _ [14, 15, 16, 55, 56, 57, 58, 59, 60, 61, 62, 63, 64] rfl (by decide +kernel)
set_option maxRecDepth 100000 in
theorem gX1_drawFront_X4_countAnswers : GoodIn wsX1_drawFront (wsV RX1 82 RX4 yX4_countAnswers wsX4_countAnswers) := goodIn_app (goodIn_of _ (by decide +kernel)) ggX1_drawFront_X4_countAnswers
set_option maxRecDepth 100000 in
theorem ggX1_drawFront_X1_cheapestBelow : GoodIn wsX1_drawFront wsX1_cheapestBelow := goodIn_r _ [21, 5, 7, 22, 23, 24, 20, 25, 26, 27, 4, 32, 33, 34, 35, 36, 37, 38, 39, 40, 41, 42, 43, 44, 45] rfl (by decide +kernel)
set_option maxRecDepth 100000 in
theorem gX1_drawFront_X1_cheapestBelow : GoodIn wsX1_drawFront (wsV RX1 137 RX1 yX1_cheapestBelow wsX1_cheapestBelow) := goodIn_app (goodIn_of _ (by decide +kernel)) ggX1_drawFront_X1_cheapestBelow
set_option maxRecDepth 100000 in
theorem ggX1_drawFront_X1_errorAt : GoodIn wsX1_drawFront wsX1_errorAt := goodIn_r _ [25, 26, 27, 4, 32, 33, 34, 35, 36, 37, 38, 39, 40, 41, 42, 43, 44, 45] rfl (by decide +kernel)
set_option maxRecDepth 100000 in
theorem gX1_drawFront_X1_errorAt : GoodIn wsX1_drawFront (wsV RX1 130 RX1 yX1_errorAt wsX1_errorAt) := goodIn_app (goodIn_of _ (by decide +kernel)) ggX1_drawFront_X1_errorAt
set_option maxRecDepth 100000 in
theorem ggX1_drawFront_X1_countAlike : GoodIn wsX1_drawFront wsX1_countAlike := goodIn_r _ [31, 5, 7, 22, 23, 24, 20, 25, 26, 27, 4, 32, 33, 34, 35, 36, 37, 38, 39, 40, 41, 42, 43, 44, 45] rfl (by decide +kernel)
set_option maxRecDepth 100000 in
theorem gX1_drawFront_X1_countAlike : GoodIn wsX1_drawFront (wsV RX1 140 RX1 yX1_countAlike wsX1_countAlike) := goodIn_app (goodIn_of _ (by decide +kernel)) ggX1_drawFront_X1_countAlike
set_option maxRecDepth 100000 in
theorem ggX1_cheapestBelow_X1_errorAt : GoodIn wsX1_cheapestBelow wsX1_errorAt := goodIn_r _ [7, 8, 9, 10, 11, 12, 13, 14, 15, 16, 17, 18, 19, 20, 21, 22, 23, 24] rfl (by decide +kernel)
set_option maxRecDepth 100000 in
theorem gX1_cheapestBelow_X1_errorAt : GoodIn wsX1_cheapestBelow (wsV RX1 130 RX1 yX1_errorAt wsX1_errorAt) := goodIn_app (goodIn_of _ (by decide +kernel)) ggX1_cheapestBelow_X1_errorAt
set_option maxRecDepth 100000 in
theorem ggX1_countAlike_X1_errorAt : GoodIn wsX1_countAlike wsX1_errorAt := goodIn_r _ [7, 8, 9, 10, 11, 12, 13, 14, 15, 16, 17, 18, 19, 20, 21, 22, 23, 24] rfl (by decide +kernel)
set_option maxRecDepth 100000 in
theorem gX1_countAlike_X1_errorAt : GoodIn wsX1_countAlike (wsV RX1 130 RX1 yX1_errorAt wsX1_errorAt) := goodIn_app (goodIn_of _ (by decide +kernel)) ggX1_countAlike_X1_errorAt
set_option maxRecDepth 100000 in
theorem ggX2_gather_X2_earlierGroup : GoodIn wsX2_gather wsX2_earlierGroup := goodIn_r _ [13, 14, 4, 25, 26, 27, 28, 29, 30, 31, 32, 33, 34, 19, 20, 21, 22, 23, 24] rfl (by decide +kernel)
set_option maxRecDepth 100000 in
theorem gX2_gather_X2_earlierGroup : GoodIn wsX2_gather (wsV RX2 32 RX2 yX2_earlierGroup wsX2_earlierGroup) := goodIn_app (goodIn_of _ (by decide +kernel)) ggX2_gather_X2_earlierGroup
set_option maxRecDepth 100000 in
theorem ggX2_gather_X2_fix : GoodIn wsX2_gather wsX2_fix := goodIn_r _ [18, 6, 2, 19, 20, 21, 22, 23, 24] rfl (by decide +kernel)
set_option maxRecDepth 100000 in
theorem gX2_gather_X2_fix : GoodIn wsX2_gather (wsV RX2 37 RX2 yX2_fix wsX2_fix) := goodIn_app (goodIn_of _ (by decide +kernel)) ggX2_gather_X2_fix
set_option maxRecDepth 100000 in
theorem ggX3_init_X7_init : GoodIn wsX3_init wsX7_init := goodIn_r _ [19, 20, 2, 3, 21, 22, 23, 24, 25] rfl (by decide +kernel)
set_option maxRecDepth 100000 in
theorem gX3_init_X7_init_n11 : GoodIn wsX3_init (wsX7_init) := ggX3_init_X7_init
set_option maxRecDepth 100000 in
theorem ggX3_goByHalves_X9_hasChoice : GoodIn wsX3_goByHalves wsX9_hasChoice := goodIn_r _ [15, 16, 17, 18, 19, 173, 174, 175, 176, 177, 178, 179, 180, 181, 182, 183, 184, 185, 186, 187, 188, 189, 190, 191, 192, 193, 194, 195, 196, 197] rfl (by decide +kernel)
set_option maxRecDepth 100000 in
theorem gX3_goByHalves_X9_hasChoice : GoodIn wsX3_goByHalves (wsV RX3 49 RX9 yX9_hasChoice wsX9_hasChoice) := goodIn_app (goodIn_of _ (by decide +kernel)) ggX3_goByHalves_X9_hasChoice
set_option maxRecDepth 100000 in
theorem ggX3_goByHalves_X9_finestFormat : GoodIn wsX3_goByHalves wsX9_finestFormat := goodIn_r _ [23, 24, 25, 173, 174, 175, 176, 177, 178, 179, 180, 181] rfl (by decide +kernel)
set_option maxRecDepth 100000 in
theorem gX3_goByHalves_X9_finestFormat : GoodIn wsX3_goByHalves (wsV RX3 58 RX9 yX9_finestFormat wsX9_finestFormat) := goodIn_app (goodIn_of _ (by decide +kernel)) ggX3_goByHalves_X9_finestFormat
set_option maxRecDepth 100000 in
theorem ggX3_goByHalves_X2_fillFree : GoodIn wsX3_goByHalves wsX2_fillFree := goodIn_r _ [30, 31, 32, 192, 193, 194, 195, 196, 197] rfl (by decide +kernel)
set_option maxRecDepth 100000 in
theorem gX3_goByHalves_X2_fillFree : GoodIn wsX3_goByHalves (wsV RX3 66 RX2 yX2_fillFree wsX2_fillFree) := goodIn_app (goodIn_of _ (by decide +kernel)) ggX3_goByHalves_X2_fillFree
set_option maxRecDepth 100000 in
theorem ggX3_goByHalves_X7_reckon : GoodIn wsX3_goByHalves wsX7_reckon := goodIn_r _ [37, 38, 39, 40, 41, 42, 43, 44, 45, 46, 36, 47, 48, 49, 50, 51, 52, 53, 54, 55, 56, 57, 14, 58, 16, 17, 18, 59, 60, 61, 62, 63, 24, 25, 64, 65, 66, 67, 68, 69, 70, 71, 72, 73, 74, 75, 76, 77, 78, 79, 80, 81, 82, 83, 84, 85, 86, 87, 88, 89, 90, 91, 92, 93, 94, 95, 96, 97, 98, 99, 100, 101, 102, 103, 104, 105, 106, 107, 108, 109, 110, 111, 112, 113, 198, 199, 200, 173, 174, 175, 176, 177, 178, 179, 180, 181, 182, 183, 184, 185, 186, 187, 188, 189, 190, 191, 192, 193, 194, 195, 196, 197, 201, 202, 203] rfl (by decide +kernel)
set_option maxRecDepth 100000 in
theorem gX3_goByHalves_X7_reckon : GoodIn wsX3_goByHalves (wsV RX3 79 RX7 yX7_reckon wsX7_reckon) := goodIn_app (goodIn_of _ (by decide +kernel)) ggX3_goByHalves_X7_reckon
set_option maxRecDepth 100000 in
theorem ggX3_goByHalves_X9_priceOf : GoodIn wsX3_goByHalves wsX9_priceOf := goodIn_r _ [117, 118, 16, 17, 119, 120, 121, 122, 14, 123, 124, 69, 70, 71, 72, 73, 74, 125, 56, 57, 58, 18, 59, 126, 127, 128, 129, 24, 173, 174, 175, 176, 177, 178, 179, 180, 181, 182, 183, 184, 185, 186, 187, 188, 189, 190, 191, 192, 193, 194, 195, 196, 197] rfl (by decide +kernel)
set_option maxRecDepth 100000 in
theorem gX3_goByHalves_X9_priceOf : GoodIn wsX3_goByHalves (wsV RX3 83 RX9 yX9_priceOf wsX9_priceOf) := goodIn_app (goodIn_of _ (by decide +kernel)) ggX3_goByHalves_X9_priceOf
set_option maxRecDepth 100000 in
theorem ggX3_goByHalves_X3_halveWith : GoodIn wsX3_goByHalves wsX3_halveWith := goodIn_r _ [134, 135, 136, 137, 6, 138, 139, 140, 133, 141, 3, 142, 143, 5, 144, 145, 146, 147, 148, 149, 150, 151, 152, 4, 9, 7, 8, 153, 154, 155, 156, 114, 115, 116, 14, 117, 118, 16, 17, 119, 120, 121, 122, 123, 124, 69, 70, 71, 72, 73, 74, 125, 56, 57, 58, 18, 59, 126, 127, 128, 129, 24, 33, 34, 35, 36, 37, 38, 39, 40, 41, 42, 43, 44, 45, 46, 47, 48, 49, 50, 51, 52, 53, 54, 55, 60, 61, 62, 63, 25, 64, 65, 66, 67, 68, 75, 76, 77, 78, 79, 80, 81, 82, 83, 84, 85, 86, 87, 88, 89, 90, 91, 92, 93, 94, 95, 96, 97, 98, 99, 100, 101, 102, 103, 104, 105, 106, 107, 108, 109, 110, 111, 112, 113, 157, 158, 159, 160, 161, 162, 163, 164, 165, 166, 167, 168, 169, 170, 171, 172, 173, 174, 175, 176, 177, 178, 179, 180, 181, 192, 193, 194, 195, 196, 197, 182, 183, 184, 185, 186, 187, 188, 189, 190, 191, 198, 199, 200, 201, 202, 203] rfl (by decide +kernel)
set_option maxRecDepth 100000 in
theorem gX3_goByHalves_X3_halveWith : GoodIn wsX3_goByHalves (wsV RX3 93 RX3 yX3_halveWith wsX3_halveWith) := goodIn_app (goodIn_of _ (by decide +kernel)) ggX3_goByHalves_X3_halveWith
set_option maxRecDepth 100000 in
theorem ggX3_halveWith_X3_findUnchanged : GoodIn wsX3_halveWith wsX3_findUnchanged := goodIn_r _ [9, 10, 11, 12, 13, 14, 150, 151, 152, 153, 154, 155, 156, 157, 158, 159, 160, 161, 162, 163, 164, 134, 135, 136, 137, 138, 139, 140, 141, 142, 143, 144, 145, 146, 147, 148, 149] rfl (by decide +kernel)
set_option maxRecDepth 100000 in
theorem gX3_halveWith_X3_findUnchanged : GoodIn wsX3_halveWith (wsV RX3 97 RX3 yX3_findUnchanged wsX3_findUnchanged) := goodIn_app (goodIn_of _ (by decide +kernel)) ggX3_halveWith_X3_findUnchanged
set_option maxRecDepth 100000 in
theorem ggX3_halveWith_X3_addPart : GoodIn wsX3_halveWith wsX3_addPart := goodIn_r _ [18, 1, 2, 3, 134, 135, 136, 137, 138, 139, 140, 141, 142, 143, 144, 145, 146, 147, 148, 149] rfl (by decide +kernel)
set_option maxRecDepth 100000 in
theorem gX3_halveWith_X3_addPart : GoodIn wsX3_halveWith (wsV RX3 104 RX3 yX3_addPart wsX3_addPart) := goodIn_app (goodIn_of _ (by decide +kernel)) ggX3_halveWith_X3_addPart
set_option maxRecDepth 100000 in
theorem ggX3_halveWith_X3_changePart : GoodIn wsX3_halveWith wsX3_changePart := goodIn_r _ [22, 23, 24, 25, 26, 13, 14, 27, 28, 29, 8, 30, 31, 32, 33, 34, 35, 36, 37, 38, 39, 40, 41, 42, 43, 44, 45, 46, 47, 48, 49, 50, 51, 52, 53, 54, 55, 56, 57, 58, 59, 60, 61, 62, 63, 64, 65, 66, 67, 68, 69, 70, 71, 72, 73, 74, 75, 76, 77, 78, 79, 80, 81, 82, 83, 84, 85, 86, 87, 88, 89, 90, 91, 92, 93, 94, 95, 96, 97, 98, 99, 100, 101, 102, 103, 104, 105, 106, 107, 108, 109, 110, 111, 112, 113, 114, 115, 116, 117, 118, 119, 120, 121, 122, 123, 124, 125, 126, 127, 128, 129, 130, 131, 132, 133, 134, 135, 136, 137, 138, 139, 140, 141, 142, 143, 144, 145, 146, 147, 148, 149, 150, 151, 152, 153, 154, 155, 156, 157, 158, 165, 166, 167, 168, 169, 170, 171, 172, 173, 174, 159, 160, 161, 162, 163, 164, 175, 176, 177, 178, 179, 180] rfl (by decide +kernel)
set_option maxRecDepth 100000 in
theorem gX3_halveWith_X3_changePart : GoodIn wsX3_halveWith (wsV RX3 108 RX3 yX3_changePart wsX3_changePart) := goodIn_app (goodIn_of _ (by decide +kernel)) ggX3_halveWith_X3_changePart
set_option maxRecDepth 100000 in
theorem ggX3_changePart_X3_setPart : GoodIn wsX3_changePart wsX3_setPart := goodIn_r _ [11, 1, 6, 115, 116, 117, 118, 119, 120, 121, 122, 123, 124, 125, 126, 127, 128, 129, 130] rfl (by decide +kernel)
set_option maxRecDepth 100000 in
theorem gX3_changePart_X3_setPart : GoodIn wsX3_changePart (wsV RX3 118 RX3 yX3_setPart wsX3_setPart) := goodIn_app (goodIn_of _ (by decide +kernel)) ggX3_changePart_X3_setPart
set_option maxRecDepth 100000 in
theorem ggX3_changePart_X9_priceOf : GoodIn wsX3_changePart wsX9_priceOf := goodIn_r _ [16, 17, 18, 19, 20, 21, 22, 23, 15, 24, 25, 26, 27, 28, 29, 30, 31, 32, 33, 34, 35, 36, 37, 38, 39, 40, 41, 42, 131, 132, 133, 134, 135, 136, 137, 138, 139, 140, 141, 142, 143, 144, 145, 146, 147, 148, 149, 150, 151, 152, 153, 154, 155] rfl (by decide +kernel)
set_option maxRecDepth 100000 in
theorem gX3_changePart_X9_priceOf : GoodIn wsX3_changePart (wsV RX3 83 RX9 yX9_priceOf wsX9_priceOf) := goodIn_app (goodIn_of _ (by decide +kernel)) ggX3_changePart_X9_priceOf
set_option maxRecDepth 100000 in
theorem ggX3_changePart_X7_reckon : GoodIn wsX3_changePart wsX7_reckon := goodIn_r _ [47, 48, 49, 50, 51, 52, 53, 54, 55, 56, 46, 57, 58, 59, 60, 61, 62, 63, 64, 65, 33, 34, 15, 35, 18, 19, 36, 37, 66, 67, 68, 69, 42, 70, 71, 72, 73, 74, 75, 26, 27, 28, 29, 30, 31, 76, 77, 78, 79, 80, 81, 82, 83, 84, 85, 86, 87, 88, 89, 90, 91, 92, 93, 94, 95, 96, 97, 98, 99, 100, 101, 102, 103, 104, 105, 106, 107, 108, 109, 110, 111, 112, 113, 114, 156, 157, 158, 131, 132, 133, 134, 135, 136, 137, 138, 139, 140, 141, 142, 143, 144, 145, 146, 147, 148, 149, 150, 151, 152, 153, 154, 155, 159, 160, 161] rfl (by decide +kernel)
set_option maxRecDepth 100000 in
theorem gX3_changePart_X7_reckon : GoodIn wsX3_changePart (wsV RX3 79 RX7 yX7_reckon wsX7_reckon) := goodIn_app (goodIn_of _ (by decide +kernel)) ggX3_changePart_X7_reckon
set_option maxRecDepth 100000 in
theorem ggX3_lookAround_X11_copyChoice : GoodIn wsX3_lookAround wsX11_copyChoice := goodIn_r _ [14] rfl (by decide +kernel)
set_option maxRecDepth 100000 in
theorem gX3_lookAround_X11_copyChoice_n128 : GoodIn wsX3_lookAround (wsX11_copyChoice) := ggX3_lookAround_X11_copyChoice
set_option maxRecDepth 100000 in
theorem ggX3_lookAround_X9_priceOf : GoodIn wsX3_lookAround wsX9_priceOf := goodIn_r _ [19, 20, 21, 22, 23, 24, 25, 26, 18, 27, 28, 29, 30, 31, 32, 33, 34, 35, 36, 37, 38, 39, 40, 41, 42, 43, 44, 45, 133, 134, 135, 136, 137, 138, 139, 140, 141, 148, 149, 150, 151, 152, 153, 154, 155, 156, 157, 142, 143, 144, 145, 146, 147] rfl (by decide +kernel)
set_option maxRecDepth 100000 in
theorem gX3_lookAround_X9_priceOf : GoodIn wsX3_lookAround (wsV RX3 83 RX9 yX9_priceOf wsX9_priceOf) := goodIn_app (goodIn_of _ (by decide +kernel)) ggX3_lookAround_X9_priceOf
set_option maxRecDepth 100000 in
theorem ggX3_lookAround_X7_reckon : GoodIn wsX3_lookAround wsX7_reckon := goodIn_r _ [50, 51, 52, 53, 54, 55, 56, 57, 58, 59, 49, 60, 61, 62, 63, 64, 65, 66, 67, 68, 36, 37, 18, 38, 21, 22, 39, 40, 69, 70, 71, 72, 45, 73, 74, 75, 76, 77, 78, 29, 30, 31, 32, 33, 34, 79, 80, 81, 82, 83, 84, 13, 85, 86, 87, 88, 89, 90, 91, 92, 93, 94, 95, 96, 97, 98, 99, 100, 101, 102, 103, 104, 105, 106, 107, 108, 109, 110, 111, 112, 113, 114, 115, 116, 158, 159, 160, 133, 134, 135, 136, 137, 138, 139, 140, 141, 148, 149, 150, 151, 152, 153, 154, 155, 156, 157, 142, 143, 144, 145, 146, 147, 161, 162, 163] rfl (by decide +kernel)
set_option maxRecDepth 100000 in
theorem gX3_lookAround_X7_reckon : GoodIn wsX3_lookAround (wsV RX3 79 RX7 yX7_reckon wsX7_reckon) := goodIn_app (goodIn_of _ (by decide +kernel)) ggX3_lookAround_X7_reckon
set_option maxRecDepth 100000 in
theorem ggX4_add_X4_letsOf : GoodIn wsX4_add wsX4_letsOf := goodIn_r _ [17, 18, 1, 7, 19, 20, 21, 22, 23, 24, 25, 26, 27, 28] rfl (by decide +kernel)
set_option maxRecDepth 100000 in
theorem gX4_add_X4_letsOf : GoodIn wsX4_add (wsV RX4 40 RX4 yX4_letsOf wsX4_letsOf) := goodIn_app (goodIn_of _ (by decide +kernel)) ggX4_add_X4_letsOf
set_option maxRecDepth 100000 in
theorem ggX4_madeFrom_X4_madeOf : GoodIn wsX4_madeFrom wsX4_madeOf := goodIn_r _ [6, 1, 7, 11, 12, 13, 14, 15, 16, 17, 18, 19, 20] rfl (by decide +kernel)
set_option maxRecDepth 100000 in
theorem gX4_madeFrom_X4_madeOf : GoodIn wsX4_madeFrom (wsV RX4 53 RX4 yX4_madeOf wsX4_madeOf) := goodIn_app (goodIn_of _ (by decide +kernel)) ggX4_madeFrom_X4_madeOf
set_option maxRecDepth 100000 in
theorem ggX4_madeFrom_X4_isAmong : GoodIn wsX4_madeFrom wsX4_isAmong := goodIn_r _ [10] rfl (by decide +kernel)
set_option maxRecDepth 100000 in
theorem gX4_madeFrom_X4_isAmong : GoodIn wsX4_madeFrom (va_wsS RX4 56 yX4_isAmong wsX4_isAmong) := goodIn_app (goodIn_of _ (by decide +kernel)) ggX4_madeFrom_X4_isAmong
set_option maxRecDepth 100000 in
theorem ggX5_init_X10_init : GoodIn wsX5_init wsX10_init := goodIn_r _ [11, 12, 2, 3, 13, 14, 15, 16, 17, 18, 19, 20, 21, 22, 23, 24, 25, 26, 27, 28, 29, 30, 31, 32, 33, 34, 35, 36, 37, 38, 39, 40, 41, 42, 43, 44, 45, 46, 47, 48, 49, 50, 51, 52, 53, 54, 55, 56, 57, 58, 59, 60, 61, 62, 63, 64, 65, 66, 67, 68, 69, 70, 71, 72, 73] rfl (by decide +kernel)
set_option maxRecDepth 100000 in
theorem gX5_init_X10_init : GoodIn wsX5_init (wsX10_init) := ggX5_init_X10_init
set_option maxRecDepth 100000 in
theorem ggX5_read_X9_clear : GoodIn wsX5_read wsX9_clear := goodIn_r _ [12, 13, 14, 15, 16, 17, 211, 212, 213, 214, 215, 216, 217, 218, 219, 220, 221, 222, 223, 224, 225, 226, 227, 228, 229] rfl (by decide +kernel)
set_option maxRecDepth 100000 in
theorem gX5_read_X9_clear : GoodIn wsX5_read (wsV RX5 25 RX9 yX9_clear wsX9_clear) := goodIn_app (goodIn_of _ (by decide +kernel)) ggX5_read_X9_clear
set_option maxRecDepth 100000 in
theorem ggX5_read_X10_open : GoodIn wsX5_read wsX10_open := goodIn_r _ [22, 23, 24, 25, 26, 27, 28, 29, 30, 31, 32, 33, 34, 35, 36, 21, 37, 38, 39, 40, 41, 42, 43, 44, 45, 46, 47, 48, 49, 50, 51, 52, 203, 204, 205, 206, 207, 208, 209, 210] rfl (by decide +kernel)
set_option maxRecDepth 100000 in
theorem gX5_read_X10_open : GoodIn wsX5_read (wsV RX5 30 RX10 yX10_open wsX10_open) := goodIn_app (goodIn_of _ (by decide +kernel)) ggX5_read_X10_open
set_option maxRecDepth 100000 in
theorem ggX5_read_X5_readStatement : GoodIn wsX5_read wsX5_readStatement := goodIn_r _ [57, 3, 58, 59, 60, 61, 56, 62, 63, 64, 65, 66, 1, 2, 67, 68, 69, 5, 6, 7, 70, 35, 36, 21, 37, 32, 33, 31, 23, 38, 39, 40, 41, 42, 43, 44, 45, 46, 47, 48, 49, 50, 51, 52, 71, 72, 73, 74, 75, 76, 77, 78, 79, 80, 81, 82, 83, 84, 85, 86, 87, 88, 89, 11, 90, 13, 91, 92, 93, 94, 95, 96, 97, 98, 99, 100, 101, 102, 103, 104, 105, 106, 107, 108, 109, 110, 4, 111, 112, 113, 114, 115, 116, 117, 118, 119, 120, 121, 122, 123, 124, 125, 126, 127, 128, 129, 130, 131, 132, 133, 134, 135, 136, 137, 138, 139, 140, 141, 142, 143, 144, 145, 146, 147, 148, 29, 26, 30, 149, 150, 151, 152, 153, 154, 155, 156, 157, 158, 159, 160, 161, 162, 163, 164, 165, 166, 167, 168, 169, 170, 171, 172, 173, 174, 175, 176, 177, 178, 179, 180, 181, 182, 183, 184, 185, 186, 187, 188, 189, 190, 191, 192, 193, 194, 195, 196, 197, 198, 199, 200, 201, 202, 203, 204, 205, 206, 207, 208, 209, 210, 211, 212, 213, 214, 215, 216, 217, 218, 219, 220, 221, 222, 223, 224, 225, 226, 227, 228, 229] rfl (by decide +kernel)
set_option maxRecDepth 100000 in
theorem gX5_read_X5_readStatement : GoodIn wsX5_read (wsV RX5 37 RX5 yX5_readStatement wsX5_readStatement) := goodIn_app (goodIn_of _ (by decide +kernel)) ggX5_read_X5_readStatement
set_option maxRecDepth 100000 in
theorem ggX5_read_X5_stopAt : GoodIn wsX5_read wsX5_stopAt := goodIn_r _ [66, 1, 2, 199, 200, 201, 202] rfl (by decide +kernel)
set_option maxRecDepth 100000 in
theorem gX5_read_X5_stopAt : GoodIn wsX5_read (wsV RX5 53 RX5 yX5_stopAt wsX5_stopAt) := goodIn_app (goodIn_of _ (by decide +kernel)) ggX5_read_X5_stopAt
set_option maxRecDepth 100000 in
theorem ggX5_readStatement_X5_startsStatement : GoodIn wsX5_readStatement wsX5_startsStatement := goodIn_r _ [7] rfl (by decide +kernel)
set_option maxRecDepth 100000 in
theorem gX5_readStatement_X5_startsStatement : GoodIn wsX5_readStatement (va_wsS RX5 60 yX5_startsStatement wsX5_startsStatement) := goodIn_app (goodIn_of _ (by decide +kernel)) ggX5_readStatement_X5_startsStatement
set_option maxRecDepth 100000 in
theorem ggX5_readStatement_X5_stopAt : GoodIn wsX5_readStatement wsX5_stopAt := goodIn_r _ [11, 12, 13, 178, 179, 180, 181] rfl (by decide +kernel)
set_option maxRecDepth 100000 in
theorem gX5_readStatement_X5_stopAt : GoodIn wsX5_readStatement (wsV RX5 53 RX5 yX5_stopAt wsX5_stopAt) := goodIn_app (goodIn_of _ (by decide +kernel)) ggX5_readStatement_X5_stopAt
set_option maxRecDepth 100000 in
theorem ggX5_readStatement_X5_isFull : GoodIn wsX5_readStatement wsX5_isFull := goodIn_r _ [16, 17, 18, 19, 190, 191, 192, 193, 194, 195, 196, 197, 198, 199, 200, 201, 202, 203, 204, 205, 206, 207, 208] rfl (by decide +kernel)
set_option maxRecDepth 100000 in
theorem gX5_readStatement_X5_isFull : GoodIn wsX5_readStatement (va_wsS RX5 67 yX5_isFull wsX5_isFull) := goodIn_app (goodIn_of _ (by decide +kernel)) ggX5_readStatement_X5_isFull
set_option maxRecDepth 100000 in
theorem ggX5_readStatement_X10_advance : GoodIn wsX5_readStatement wsX10_advance := goodIn_r _ [24, 25, 26, 27, 28, 29, 30, 31, 32, 33, 23, 34, 35, 36, 37, 38, 39, 40, 41, 42, 43, 182, 183, 184, 185, 186, 187, 188, 189] rfl (by decide +kernel)
set_option maxRecDepth 100000 in
theorem gX5_readStatement_X10_advance : GoodIn wsX5_readStatement (wsV RX5 70 RX10 yX10_advance wsX10_advance) := goodIn_app (goodIn_of _ (by decide +kernel)) ggX5_readStatement_X10_advance
set_option maxRecDepth 100000 in
theorem ggX5_readStatement_X5_readFormat : GoodIn wsX5_readStatement wsX5_readFormat := goodIn_r _ [47, 48, 49, 50, 51, 52, 53, 6, 54, 1, 3, 55, 18, 56, 57, 58, 23, 59, 26, 31, 8, 9, 10, 11, 12, 13, 60, 61, 62, 63, 64, 65, 66, 67, 68, 69, 70, 71, 72, 73, 20, 21, 22, 24, 25, 27, 28, 29, 30, 32, 33, 34, 35, 36, 37, 38, 39, 40, 41, 42, 43, 74, 75, 76, 77, 78, 79, 80, 81, 82, 83, 84, 85, 86, 87, 88, 89, 90, 91, 92, 93, 94, 95, 96, 97, 178, 179, 180, 181, 182, 183, 184, 185, 186, 187, 188, 189, 190, 191, 192, 193, 194, 195, 196, 197, 198, 199, 200, 201, 202, 203, 204, 205, 206, 207, 208] rfl (by decide +kernel)
set_option maxRecDepth 100000 in
theorem gX5_readStatement_X5_readFormat : GoodIn wsX5_readStatement (wsV RX5 73 RX5 yX5_readFormat wsX5_readFormat) := goodIn_app (goodIn_of _ (by decide +kernel)) ggX5_readStatement_X5_readFormat
set_option maxRecDepth 100000 in
theorem ggX5_readStatement_X5_readCast : GoodIn wsX5_readStatement wsX5_readCast := goodIn_r _ [101, 48, 102, 82, 83, 84, 6, 85, 1, 3, 86, 55, 87, 88, 89, 23, 90, 26, 30, 20, 21, 22, 24, 25, 27, 28, 29, 31, 32, 33, 34, 35, 36, 37, 38, 39, 40, 41, 42, 43, 8, 9, 10, 11, 12, 13, 178, 179, 180, 181, 190, 191, 192, 193, 194, 195, 196, 197, 198, 182, 183, 184, 185, 186, 187, 188, 189] rfl (by decide +kernel)
set_option maxRecDepth 100000 in
theorem gX5_readStatement_X5_readCast : GoodIn wsX5_readStatement (wsV RX5 77 RX5 yX5_readCast wsX5_readCast) := goodIn_app (goodIn_of _ (by decide +kernel)) ggX5_readStatement_X5_readCast
set_option maxRecDepth 100000 in
theorem ggX5_readStatement_X5_readBox : GoodIn wsX5_readStatement wsX5_readBox := goodIn_r _ [106, 48, 107, 108, 18, 51, 52, 53, 6, 54, 1, 3, 55, 56, 57, 58, 23, 59, 26, 31, 8, 9, 10, 11, 12, 13, 60, 61, 62, 63, 64, 65, 66, 67, 68, 69, 70, 71, 72, 73, 20, 21, 22, 24, 25, 27, 28, 29, 30, 32, 33, 34, 35, 36, 37, 38, 39, 40, 41, 42, 43, 82, 83, 84, 85, 86, 87, 88, 89, 90, 109, 110, 111, 112, 113, 114, 115, 116, 117, 118, 119, 120, 121, 122, 123, 124, 125, 126, 127, 128, 129, 130, 131, 132, 178, 179, 180, 181, 190, 191, 192, 193, 194, 195, 196, 197, 198, 182, 183, 184, 185, 186, 187, 188, 189, 199, 200, 201, 202, 203, 204, 205, 206, 207, 208] rfl (by decide +kernel)
set_option maxRecDepth 100000 in
theorem gX5_readStatement_X5_readBox : GoodIn wsX5_readStatement (wsV RX5 80 RX5 yX5_readBox wsX5_readBox) := goodIn_app (goodIn_of _ (by decide +kernel)) ggX5_readStatement_X5_readBox
set_option maxRecDepth 100000 in
theorem ggX5_readStatement_X5_readLet : GoodIn wsX5_readStatement wsX5_readLet := goodIn_r _ [136, 48, 18, 51, 52, 53, 6, 54, 1, 3, 55, 56, 57, 58, 23, 59, 26, 31, 8, 9, 10, 11, 12, 13, 60, 61, 62, 63, 64, 65, 66, 67, 68, 69, 70, 71, 72, 73, 20, 21, 22, 24, 25, 27, 28, 29, 30, 32, 33, 34, 35, 36, 37, 38, 39, 40, 41, 42, 43, 137, 138, 139, 140, 87, 88, 89, 90, 141, 142, 143, 144, 86, 145, 49, 146, 147, 148, 149, 109, 110, 111, 112, 113, 114, 82, 83, 84, 85, 150, 151, 152, 153, 78, 79, 80, 81, 115, 116, 117, 118, 119, 120, 121, 122, 123, 124, 125, 126, 127, 128, 129, 130, 131, 132, 178, 179, 180, 181, 190, 191, 192, 193, 194, 195, 196, 197, 198, 182, 183, 184, 185, 186, 187, 188, 189, 199, 200, 201, 202, 203, 204, 205, 206, 207, 208] rfl (by decide +kernel)
set_option maxRecDepth 100000 in
theorem gX5_readStatement_X5_readLet : GoodIn wsX5_readStatement (wsV RX5 83 RX5 yX5_readLet wsX5_readLet) := goodIn_app (goodIn_of _ (by decide +kernel)) ggX5_readStatement_X5_readLet
set_option maxRecDepth 100000 in
theorem ggX5_readStatement_X5_readFixed : GoodIn wsX5_readStatement wsX5_readFixed := goodIn_r _ [157, 18, 1, 55, 48, 67, 68, 69, 70, 71, 72, 73, 146, 147, 148, 6, 149, 3, 56, 57, 58, 23, 59, 26, 31, 8, 9, 10, 11, 12, 13, 20, 21, 22, 24, 25, 27, 28, 29, 30, 32, 33, 34, 35, 36, 37, 38, 39, 40, 41, 42, 43, 60, 61, 62, 63, 64, 65, 66, 158, 159, 160, 161, 120, 190, 191, 192, 193, 194, 195, 196, 197, 198, 178, 179, 180, 181, 182, 183, 184, 185, 186, 187, 188, 189, 199, 200, 201, 202, 203, 204, 205, 206, 207, 208] rfl (by decide +kernel)
set_option maxRecDepth 100000 in
theorem gX5_readStatement_X5_readFixed : GoodIn wsX5_readStatement (wsV RX5 86 RX5 yX5_readFixed wsX5_readFixed) := goodIn_app (goodIn_of _ (by decide +kernel)) ggX5_readStatement_X5_readFixed
set_option maxRecDepth 100000 in
theorem ggX5_readStatement_X5_readGroup : GoodIn wsX5_readStatement wsX5_readGroup := goodIn_r _ [165, 18, 1, 55, 48, 3, 67, 68, 69, 70, 71, 72, 73, 146, 147, 148, 6, 149, 56, 57, 58, 23, 59, 26, 31, 8, 9, 10, 11, 12, 13, 20, 21, 22, 24, 25, 27, 28, 29, 30, 32, 33, 34, 35, 36, 37, 38, 39, 40, 41, 42, 43, 166, 167, 168, 169, 122, 190, 191, 192, 193, 194, 195, 196, 197, 198, 178, 179, 180, 181, 182, 183, 184, 185, 186, 187, 188, 189, 199, 200, 201, 202, 203, 204, 205, 206, 207, 208] rfl (by decide +kernel)
set_option maxRecDepth 100000 in
theorem gX5_readStatement_X5_readGroup : GoodIn wsX5_readStatement (wsV RX5 89 RX5 yX5_readGroup wsX5_readGroup) := goodIn_app (goodIn_of _ (by decide +kernel)) ggX5_readStatement_X5_readGroup
set_option maxRecDepth 100000 in
theorem ggX5_readStatement_X5_readAnswer : GoodIn wsX5_readStatement wsX5_readAnswer := goodIn_r _ [173, 18, 1, 55, 48, 49, 67, 68, 69, 70, 71, 72, 73, 146, 147, 148, 6, 149, 3, 56, 57, 58, 23, 59, 26, 31, 8, 9, 10, 11, 12, 13, 20, 21, 22, 24, 25, 27, 28, 29, 30, 32, 33, 34, 35, 36, 37, 38, 39, 40, 41, 42, 43, 74, 75, 76, 77, 78, 79, 80, 81, 82, 83, 84, 85, 86, 87, 88, 89, 90, 174, 175, 176, 177, 121, 190, 191, 192, 193, 194, 195, 196, 197, 198, 178, 179, 180, 181, 182, 183, 184, 185, 186, 187, 188, 189, 199, 200, 201, 202, 203, 204, 205, 206, 207, 208] rfl (by decide +kernel)
set_option maxRecDepth 100000 in
theorem gX5_readStatement_X5_readAnswer : GoodIn wsX5_readStatement (wsV RX5 92 RX5 yX5_readAnswer wsX5_readAnswer) := goodIn_app (goodIn_of _ (by decide +kernel)) ggX5_readStatement_X5_readAnswer
set_option maxRecDepth 100000 in
theorem ggX5_readStatement_X5_readSign : GoodIn wsX5_readStatement wsX5_readSign := goodIn_r _ [140, 1, 3, 87, 88, 89, 23, 90, 26, 30, 8, 9, 10, 6, 11, 12, 13, 20, 21, 22, 24, 25, 27, 28, 29, 31, 32, 33, 34, 35, 36, 37, 38, 39, 40, 41, 42, 43, 178, 179, 180, 181, 182, 183, 184, 185, 186, 187, 188, 189] rfl (by decide +kernel)
set_option maxRecDepth 100000 in
theorem gX5_readStatement_X5_readSign : GoodIn wsX5_readStatement (wsV RX5 95 RX5 yX5_readSign wsX5_readSign) := goodIn_app (goodIn_of _ (by decide +kernel)) ggX5_readStatement_X5_readSign
set_option maxRecDepth 100000 in
theorem ggX5_readFormat_X5_readNewName : GoodIn wsX5_readFormat wsX5_readNewName := goodIn_r _ [8, 9, 10, 11, 12, 1, 13, 14, 15, 16, 17, 18, 19, 20, 21, 22, 7, 23, 24, 25, 26, 27, 28, 29, 30, 31, 32, 33, 34, 35, 36, 37, 38, 39, 40, 41, 42, 43, 44, 45, 46, 47, 48, 49, 50, 51, 52, 53, 54, 55, 56, 57, 58, 59, 60, 85, 86, 87, 88, 89, 90, 91, 92, 93, 94, 95, 96, 97, 98, 99, 100, 101, 102, 103, 104, 105, 106, 107, 108, 109, 110, 111, 112, 113, 114, 115] rfl (by decide +kernel)
set_option maxRecDepth 100000 in
theorem gX5_readFormat_X5_readNewName : GoodIn wsX5_readFormat (wsV RX5 99 RX5 yX5_readNewName wsX5_readNewName) := goodIn_app (goodIn_of _ (by decide +kernel)) ggX5_readFormat_X5_readNewName
set_option maxRecDepth 100000 in
theorem ggX5_readFormat_X5_readOwn : GoodIn wsX5_readFormat wsX5_readOwn := goodIn_r _ [64, 9, 10, 65, 66, 67, 16, 68, 18, 19, 20, 21, 22, 7, 23, 24, 25, 40, 41, 42, 43, 44, 45, 46, 47, 48, 49, 50, 51, 52, 53, 54, 55, 56, 57, 58, 59, 60, 85, 86, 87, 88, 89, 90, 91, 92, 93, 94, 95, 96] rfl (by decide +kernel)
set_option maxRecDepth 100000 in
theorem gX5_readFormat_X5_readOwn : GoodIn wsX5_readFormat (wsV RX5 105 RX5 yX5_readOwn wsX5_readOwn) := goodIn_app (goodIn_of _ (by decide +kernel)) ggX5_readFormat_X5_readOwn
set_option maxRecDepth 100000 in
theorem ggX5_readFormat_X5_readValue : GoodIn wsX5_readFormat wsX5_readValue := goodIn_r _ [72, 9, 10, 73, 11, 1, 74, 75, 76, 16, 77, 18, 48, 40, 41, 42, 43, 44, 45, 46, 47, 19, 49, 50, 51, 52, 53, 54, 55, 56, 57, 58, 59, 60, 20, 21, 22, 7, 23, 24, 25, 85, 86, 87, 88, 89, 90, 91, 92, 93, 94, 95, 96] rfl (by decide +kernel)
set_option maxRecDepth 100000 in
theorem gX5_readFormat_X5_readValue : GoodIn wsX5_readFormat (wsV RX5 109 RX5 yX5_readValue wsX5_readValue) := goodIn_app (goodIn_of _ (by decide +kernel)) ggX5_readFormat_X5_readValue
set_option maxRecDepth 100000 in
theorem ggX5_readFormat_X9_addFormat : GoodIn wsX5_readFormat wsX9_addFormat := goodIn_r _ [81, 31, 32, 82, 83, 84, 97, 98, 99, 100, 101, 102, 103, 104, 105] rfl (by decide +kernel)
set_option maxRecDepth 100000 in
theorem gX5_readFormat_X9_addFormat : GoodIn wsX5_readFormat (wsV RX5 114 RX9 yX9_addFormat wsX9_addFormat) := goodIn_app (goodIn_of _ (by decide +kernel)) ggX5_readFormat_X9_addFormat
set_option maxRecDepth 100000 in
theorem ggX5_readCast_X5_readValue : GoodIn wsX5_readCast wsX5_readValue := goodIn_r _ [7, 8, 9, 10, 11, 1, 12, 13, 14, 15, 16, 17, 18, 19, 20, 21, 22, 23, 24, 25, 26, 27, 28, 29, 30, 31, 32, 33, 34, 35, 36, 37, 38, 39, 40, 41, 42, 6, 43, 44, 45, 46, 47, 48, 49, 59, 60, 61, 62, 63, 64, 65, 66] rfl (by decide +kernel)
set_option maxRecDepth 100000 in
theorem gX5_readCast_X5_readValue : GoodIn wsX5_readCast (wsV RX5 109 RX5 yX5_readValue wsX5_readValue) := goodIn_app (goodIn_of _ (by decide +kernel)) ggX5_readCast_X5_readValue
set_option maxRecDepth 100000 in
theorem ggX5_readBox_X5_readNewName : GoodIn wsX5_readBox wsX5_readNewName := goodIn_r _ [9, 10, 11, 12, 4, 1, 13, 14, 15, 16, 17, 18, 19, 20, 21, 22, 8, 23, 24, 25, 26, 27, 28, 29, 30, 31, 32, 33, 34, 35, 36, 37, 38, 39, 40, 41, 42, 43, 44, 45, 46, 47, 48, 49, 50, 51, 52, 53, 54, 55, 56, 57, 58, 59, 60, 94, 95, 96, 97, 107, 108, 109, 110, 111, 112, 113, 114, 98, 99, 100, 101, 102, 103, 104, 105, 106, 115, 116, 117, 118, 119, 120, 121, 122, 123, 124] rfl (by decide +kernel)
set_option maxRecDepth 100000 in
theorem gX5_readBox_X5_readNewName : GoodIn wsX5_readBox (wsV RX5 99 RX5 yX5_readNewName wsX5_readNewName) := goodIn_app (goodIn_of _ (by decide +kernel)) ggX5_readBox_X5_readNewName
set_option maxRecDepth 100000 in
theorem ggX5_readBox_X5_readValue : GoodIn wsX5_readBox wsX5_readValue := goodIn_r _ [64, 10, 11, 65, 12, 1, 66, 67, 68, 16, 69, 18, 48, 40, 41, 42, 43, 44, 45, 46, 47, 19, 49, 50, 51, 52, 53, 54, 55, 56, 57, 58, 59, 60, 20, 21, 22, 8, 23, 24, 25, 94, 95, 96, 97, 107, 108, 109, 110, 111, 112, 113, 114] rfl (by decide +kernel)
set_option maxRecDepth 100000 in
theorem gX5_readBox_X5_readValue : GoodIn wsX5_readBox (wsV RX5 109 RX5 yX5_readValue wsX5_readValue) := goodIn_app (goodIn_of _ (by decide +kernel)) ggX5_readBox_X5_readValue
set_option maxRecDepth 100000 in
theorem ggX5_readBox_X4_prepare : GoodIn wsX5_readBox wsX4_prepare := goodIn_r _ [73, 38, 74, 75, 115, 116, 117, 118, 119, 120, 121, 122, 123, 124] rfl (by decide +kernel)
set_option maxRecDepth 100000 in
theorem gX5_readBox_X4_prepare : GoodIn wsX5_readBox (wsV RX5 123 RX4 yX4_prepare wsX4_prepare) := goodIn_app (goodIn_of _ (by decide +kernel)) ggX5_readBox_X4_prepare
set_option maxRecDepth 100000 in
theorem ggX5_readBox_X4_add : GoodIn wsX5_readBox wsX4_add := goodIn_r _ [79, 38, 39, 80, 81, 82, 83, 84, 85, 86, 87, 88, 89, 90, 91, 92, 36, 93, 74, 115, 116, 117, 118, 119, 120, 121, 122, 123, 124] rfl (by decide +kernel)
set_option maxRecDepth 100000 in
theorem gX5_readBox_X4_add : GoodIn wsX5_readBox (wsV RX5 127 RX4 yX4_add wsX4_add) := goodIn_app (goodIn_of _ (by decide +kernel)) ggX5_readBox_X4_add
set_option maxRecDepth 100000 in
theorem ggX5_readLet_X5_readNewName : GoodIn wsX5_readLet wsX5_readNewName := goodIn_r _ [7, 8, 9, 10, 2, 1, 11, 12, 13, 14, 15, 16, 17, 18, 19, 20, 6, 21, 22, 23, 24, 25, 26, 27, 28, 29, 30, 31, 32, 33, 34, 35, 36, 37, 38, 39, 40, 41, 42, 43, 44, 45, 46, 47, 48, 49, 50, 51, 52, 53, 54, 55, 56, 57, 58, 114, 115, 116, 117, 127, 128, 129, 130, 131, 132, 133, 134, 118, 119, 120, 121, 122, 123, 124, 125, 126, 135, 136, 137, 138, 139, 140, 141, 142, 143, 144] rfl (by decide +kernel)
set_option maxRecDepth 100000 in
theorem gX5_readLet_X5_readNewName : GoodIn wsX5_readLet (wsV RX5 99 RX5 yX5_readNewName wsX5_readNewName) := goodIn_app (goodIn_of _ (by decide +kernel)) ggX5_readLet_X5_readNewName
set_option maxRecDepth 100000 in
theorem ggX5_readLet_X5_readSign : GoodIn wsX5_readLet wsX5_readSign := goodIn_r _ [62, 8, 9, 63, 64, 65, 14, 66, 16, 46, 18, 19, 20, 6, 21, 22, 23, 38, 39, 40, 41, 42, 43, 44, 45, 17, 47, 48, 49, 50, 51, 52, 53, 54, 55, 56, 57, 58, 114, 115, 116, 117, 127, 128, 129, 130, 131, 132, 133, 134] rfl (by decide +kernel)
set_option maxRecDepth 100000 in
theorem gX5_readLet_X5_readSign : GoodIn wsX5_readLet (wsV RX5 95 RX5 yX5_readSign wsX5_readSign) := goodIn_app (goodIn_of _ (by decide +kernel)) ggX5_readLet_X5_readSign
set_option maxRecDepth 100000 in
theorem ggX5_readLet_X5_readWhat : GoodIn wsX5_readLet wsX5_readWhat := goodIn_r _ [70, 8, 71, 2, 10, 1, 72, 73, 31, 32, 33, 34, 35, 36, 37, 74, 75, 76, 6, 77, 9, 11, 12, 13, 14, 15, 16, 17, 18, 19, 20, 21, 22, 23, 38, 39, 40, 41, 42, 43, 44, 45, 46, 47, 48, 49, 50, 51, 52, 53, 54, 55, 56, 57, 58, 78, 79, 80, 81, 82, 83, 84, 85, 86, 87, 63, 64, 65, 66, 114, 115, 116, 117, 127, 128, 129, 130, 131, 132, 133, 134, 118, 119, 120, 121, 122, 123, 124, 125, 126, 135, 136, 137, 138, 139, 140, 141, 142, 143, 144] rfl (by decide +kernel)
set_option maxRecDepth 100000 in
theorem gX5_readLet_X5_readWhat : GoodIn wsX5_readLet (wsV RX5 131 RX5 yX5_readWhat wsX5_readWhat) := goodIn_app (goodIn_of _ (by decide +kernel)) ggX5_readLet_X5_readWhat
set_option maxRecDepth 100000 in
theorem ggX5_readLet_X5_readOp : GoodIn wsX5_readLet wsX5_readOp := goodIn_r _ [91, 8, 1, 9, 63, 64, 65, 14, 66, 16, 46, 92, 93, 94, 95, 17, 18, 19, 20, 6, 21, 22, 23, 38, 39, 40, 41, 42, 43, 44, 45, 47, 48, 49, 50, 51, 52, 53, 54, 55, 56, 57, 58, 114, 115, 116, 117, 127, 128, 129, 130, 131, 132, 133, 134] rfl (by decide +kernel)
set_option maxRecDepth 100000 in
theorem gX5_readLet_X5_readOp : GoodIn wsX5_readLet (wsV RX5 134 RX5 yX5_readOp wsX5_readOp) := goodIn_app (goodIn_of _ (by decide +kernel)) ggX5_readLet_X5_readOp
set_option maxRecDepth 100000 in
theorem ggX5_readLet_X4_add : GoodIn wsX5_readLet wsX4_add := goodIn_r _ [99, 36, 37, 100, 101, 102, 103, 104, 105, 106, 107, 108, 109, 110, 111, 112, 34, 113, 82, 135, 136, 137, 138, 139, 140, 141, 142, 143, 144] rfl (by decide +kernel)
set_option maxRecDepth 100000 in
theorem gX5_readLet_X4_add : GoodIn wsX5_readLet (wsV RX5 127 RX4 yX4_add wsX4_add) := goodIn_app (goodIn_of _ (by decide +kernel)) ggX5_readLet_X4_add
set_option maxRecDepth 100000 in
theorem ggX5_readWhat_X4_find : GoodIn wsX5_readWhat wsX4_find := goodIn_r _ [12, 13, 14, 90, 91, 92, 93, 94, 95, 96, 97, 98, 99] rfl (by decide +kernel)
set_option maxRecDepth 100000 in
theorem gX5_readWhat_X4_find : GoodIn wsX5_readWhat (wsV RX5 141 RX4 yX4_find wsX4_find) := goodIn_app (goodIn_of _ (by decide +kernel)) ggX5_readWhat_X4_find
set_option maxRecDepth 100000 in
theorem ggX5_readWhat_X5_readKnown : GoodIn wsX5_readWhat wsX5_readKnown := goodIn_r _ [19, 1, 20, 5, 21, 22, 23, 24, 25, 26, 27, 28, 29, 30, 18, 31, 32, 33, 34, 35, 36, 37, 38, 39, 40, 41, 42, 43, 44, 45, 46, 47, 48, 49, 50, 51, 52, 53, 54, 69, 70, 71, 72, 73, 74, 75, 76, 77, 78, 79, 80] rfl (by decide +kernel)
set_option maxRecDepth 100000 in
theorem gX5_readWhat_X5_readKnown : GoodIn wsX5_readWhat (wsV RX5 145 RX5 yX5_readKnown wsX5_readKnown) := goodIn_app (goodIn_of _ (by decide +kernel)) ggX5_readWhat_X5_readKnown
set_option maxRecDepth 100000 in
theorem ggX5_readWhat_X4_prepare : GoodIn wsX5_readWhat wsX4_prepare := goodIn_r _ [58, 13, 59, 60, 90, 91, 92, 93, 94, 95, 96, 97, 98, 99] rfl (by decide +kernel)
set_option maxRecDepth 100000 in
theorem gX5_readWhat_X4_prepare : GoodIn wsX5_readWhat (wsV RX5 123 RX4 yX4_prepare wsX4_prepare) := goodIn_app (goodIn_of _ (by decide +kernel)) ggX5_readWhat_X4_prepare
set_option maxRecDepth 100000 in
theorem ggX5_readWhat_X5_readValue : GoodIn wsX5_readWhat wsX5_readValue := goodIn_r _ [64, 1, 20, 2, 4, 5, 65, 66, 67, 24, 68, 26, 42, 34, 35, 36, 37, 38, 39, 40, 41, 27, 43, 44, 45, 46, 47, 48, 49, 50, 51, 52, 53, 54, 28, 29, 30, 18, 31, 32, 33, 69, 70, 71, 72, 73, 74, 75, 76, 77, 78, 79, 80] rfl (by decide +kernel)
set_option maxRecDepth 100000 in
theorem gX5_readWhat_X5_readValue : GoodIn wsX5_readWhat (wsV RX5 109 RX5 yX5_readValue wsX5_readValue) := goodIn_app (goodIn_of _ (by decide +kernel)) ggX5_readWhat_X5_readValue
set_option maxRecDepth 100000 in
theorem ggX5_readOp_X10_isSign : GoodIn wsX5_readOp wsX10_isSign := goodIn_r _ [8, 9, 10, 47, 48, 49, 50, 51, 52, 53, 54] rfl (by decide +kernel)
set_option maxRecDepth 100000 in
theorem gX5_readOp_X10_isSign : GoodIn wsX5_readOp (wsV RX5 149 RX10 yX10_isSign wsX10_isSign) := goodIn_app (goodIn_of _ (by decide +kernel)) ggX5_readOp_X10_isSign
set_option maxRecDepth 100000 in
theorem ggX5_readOp_X10_isOwn : GoodIn wsX5_readOp wsX10_isOwn := goodIn_r _ [14, 9, 15, 47, 48, 49, 50, 51, 52, 53, 54] rfl (by decide +kernel)
set_option maxRecDepth 100000 in
theorem gX5_readOp_X10_isOwn : GoodIn wsX5_readOp (wsV RX5 152 RX10 yX10_isOwn wsX10_isOwn) := goodIn_app (goodIn_of _ (by decide +kernel)) ggX5_readOp_X10_isOwn
set_option maxRecDepth 100000 in
theorem ggX5_readOp_X5_stopAt : GoodIn wsX5_readOp wsX5_stopAt := goodIn_r _ [20, 21, 22, 43, 44, 45, 46] rfl (by decide +kernel)
set_option maxRecDepth 100000 in
theorem gX5_readOp_X5_stopAt : GoodIn wsX5_readOp (wsV RX5 53 RX5 yX5_stopAt wsX5_stopAt) := goodIn_app (goodIn_of _ (by decide +kernel)) ggX5_readOp_X5_stopAt
set_option maxRecDepth 100000 in
theorem ggX5_readOp_X10_advance : GoodIn wsX5_readOp wsX10_advance := goodIn_r _ [26, 27, 9, 28, 29, 30, 10, 15, 31, 32, 7, 33, 34, 35, 36, 37, 38, 39, 40, 41, 42, 47, 48, 49, 50, 51, 52, 53, 54] rfl (by decide +kernel)
set_option maxRecDepth 100000 in
theorem gX5_readOp_X10_advance : GoodIn wsX5_readOp (wsV RX5 70 RX10 yX10_advance wsX10_advance) := goodIn_app (goodIn_of _ (by decide +kernel)) ggX5_readOp_X10_advance
set_option maxRecDepth 100000 in
theorem ggX5_readFixed_X4_find : GoodIn wsX5_readFixed wsX4_find := goodIn_r _ [9, 10, 11, 85, 86, 87, 88, 89, 90, 91, 92, 93, 94] rfl (by decide +kernel)
set_option maxRecDepth 100000 in
theorem gX5_readFixed_X4_find : GoodIn wsX5_readFixed (wsV RX5 141 RX4 yX4_find wsX4_find) := goodIn_app (goodIn_of _ (by decide +kernel)) ggX5_readFixed_X4_find
set_option maxRecDepth 100000 in
theorem ggX5_readFixed_X5_readKnown : GoodIn wsX5_readFixed wsX5_readKnown := goodIn_r _ [16, 2, 17, 4, 18, 19, 20, 21, 22, 23, 24, 25, 26, 27, 15, 28, 29, 30, 31, 32, 33, 34, 35, 36, 37, 38, 39, 40, 41, 42, 43, 44, 45, 46, 47, 48, 49, 50, 51, 73, 74, 75, 76, 77, 78, 79, 80, 81, 82, 83, 84] rfl (by decide +kernel)
set_option maxRecDepth 100000 in
theorem gX5_readFixed_X5_readKnown : GoodIn wsX5_readFixed (wsV RX5 145 RX5 yX5_readKnown wsX5_readKnown) := goodIn_app (goodIn_of _ (by decide +kernel)) ggX5_readFixed_X5_readKnown
set_option maxRecDepth 100000 in
theorem ggX5_readFixed_X9_findFormat : GoodIn wsX5_readFixed wsX9_findFormat := goodIn_r _ [56, 57, 58, 64, 65, 66, 67, 68, 69, 70, 71, 72] rfl (by decide +kernel)
set_option maxRecDepth 100000 in
theorem gX5_readFixed_X9_findFormat : GoodIn wsX5_readFixed (wsV RX5 155 RX9 yX9_findFormat wsX9_findFormat) := goodIn_app (goodIn_of _ (by decide +kernel)) ggX5_readFixed_X9_findFormat
set_option maxRecDepth 100000 in
theorem ggX5_readFixed_X4_fix : GoodIn wsX5_readFixed wsX4_fix := goodIn_r _ [62, 10, 63, 85, 86, 87, 88, 89, 90, 91, 92, 93, 94] rfl (by decide +kernel)
set_option maxRecDepth 100000 in
theorem gX5_readFixed_X4_fix : GoodIn wsX5_readFixed (wsV RX5 158 RX4 yX4_fix wsX4_fix) := goodIn_app (goodIn_of _ (by decide +kernel)) ggX5_readFixed_X4_fix
set_option maxRecDepth 100000 in
theorem ggX5_readGroup_X4_find : GoodIn wsX5_readGroup wsX4_find := goodIn_r _ [10, 11, 12, 78, 79, 80, 81, 82, 83, 84, 85, 86, 87] rfl (by decide +kernel)
set_option maxRecDepth 100000 in
theorem gX5_readGroup_X4_find : GoodIn wsX5_readGroup (wsV RX5 141 RX4 yX4_find wsX4_find) := goodIn_app (goodIn_of _ (by decide +kernel)) ggX5_readGroup_X4_find
set_option maxRecDepth 100000 in
theorem ggX5_readGroup_X5_readKnown : GoodIn wsX5_readGroup wsX5_readKnown := goodIn_r _ [17, 2, 5, 4, 18, 19, 20, 21, 22, 23, 24, 25, 26, 27, 16, 28, 29, 30, 31, 32, 33, 34, 35, 36, 37, 38, 39, 40, 41, 42, 43, 44, 45, 46, 47, 48, 49, 50, 51, 66, 67, 68, 69, 70, 71, 72, 73, 74, 75, 76, 77] rfl (by decide +kernel)
set_option maxRecDepth 100000 in
theorem gX5_readGroup_X5_readKnown : GoodIn wsX5_readGroup (wsV RX5 145 RX5 yX5_readKnown wsX5_readKnown) := goodIn_app (goodIn_of _ (by decide +kernel)) ggX5_readGroup_X5_readKnown
set_option maxRecDepth 100000 in
theorem ggX5_readGroup_X5_stopAt : GoodIn wsX5_readGroup wsX5_stopAt := goodIn_r _ [28, 29, 30, 66, 67, 68, 69] rfl (by decide +kernel)
set_option maxRecDepth 100000 in
theorem gX5_readGroup_X5_stopAt : GoodIn wsX5_readGroup (wsV RX5 53 RX5 yX5_stopAt wsX5_stopAt) := goodIn_app (goodIn_of _ (by decide +kernel)) ggX5_readGroup_X5_stopAt
set_option maxRecDepth 100000 in
theorem ggX5_readGroup_X4_join : GoodIn wsX5_readGroup wsX4_join := goodIn_r _ [55, 11, 56, 78, 79, 80, 81, 82, 83, 84, 85, 86, 87] rfl (by decide +kernel)
set_option maxRecDepth 100000 in
theorem gX5_readGroup_X4_join : GoodIn wsX5_readGroup (wsV RX5 161 RX4 yX4_join wsX4_join) := goodIn_app (goodIn_of _ (by decide +kernel)) ggX5_readGroup_X4_join
set_option maxRecDepth 100000 in
theorem ggX5_readAnswer_X4_find : GoodIn wsX5_readAnswer wsX4_find := goodIn_r _ [10, 11, 12, 96, 97, 98, 99, 100, 101, 102, 103, 104, 105] rfl (by decide +kernel)
set_option maxRecDepth 100000 in
theorem gX5_readAnswer_X4_find : GoodIn wsX5_readAnswer (wsV RX5 141 RX4 yX4_find wsX4_find) := goodIn_app (goodIn_of _ (by decide +kernel)) ggX5_readAnswer_X4_find
set_option maxRecDepth 100000 in
theorem ggX5_readAnswer_X5_readKnown : GoodIn wsX5_readAnswer wsX5_readKnown := goodIn_r _ [17, 2, 18, 4, 19, 20, 21, 22, 23, 24, 25, 26, 27, 28, 16, 29, 30, 31, 32, 33, 34, 35, 36, 37, 38, 39, 40, 41, 42, 43, 44, 45, 46, 47, 48, 49, 50, 51, 52, 84, 85, 86, 87, 88, 89, 90, 91, 92, 93, 94, 95] rfl (by decide +kernel)
set_option maxRecDepth 100000 in
theorem gX5_readAnswer_X5_readKnown : GoodIn wsX5_readAnswer (wsV RX5 145 RX5 yX5_readKnown wsX5_readKnown) := goodIn_app (goodIn_of _ (by decide +kernel)) ggX5_readAnswer_X5_readKnown
set_option maxRecDepth 100000 in
theorem ggX5_readAnswer_X5_readOwn : GoodIn wsX5_readAnswer wsX5_readOwn := goodIn_r _ [56, 2, 18, 57, 58, 59, 22, 60, 24, 25, 26, 27, 28, 16, 29, 30, 31, 32, 33, 34, 35, 36, 37, 38, 39, 40, 41, 42, 43, 44, 45, 46, 47, 48, 49, 50, 51, 52, 84, 85, 86, 87, 88, 89, 90, 91, 92, 93, 94, 95] rfl (by decide +kernel)
set_option maxRecDepth 100000 in
theorem gX5_readAnswer_X5_readOwn : GoodIn wsX5_readAnswer (wsV RX5 105 RX5 yX5_readOwn wsX5_readOwn) := goodIn_app (goodIn_of _ (by decide +kernel)) ggX5_readAnswer_X5_readOwn
set_option maxRecDepth 100000 in
theorem ggX5_readAnswer_X5_readValue : GoodIn wsX5_readAnswer wsX5_readValue := goodIn_r _ [64, 2, 18, 65, 3, 4, 66, 67, 68, 22, 69, 24, 40, 32, 33, 34, 35, 36, 37, 38, 39, 25, 41, 42, 43, 44, 45, 46, 47, 48, 49, 50, 51, 52, 26, 27, 28, 16, 29, 30, 31, 84, 85, 86, 87, 88, 89, 90, 91, 92, 93, 94, 95] rfl (by decide +kernel)
set_option maxRecDepth 100000 in
theorem gX5_readAnswer_X5_readValue : GoodIn wsX5_readAnswer (wsV RX5 109 RX5 yX5_readValue wsX5_readValue) := goodIn_app (goodIn_of _ (by decide +kernel)) ggX5_readAnswer_X5_readValue
set_option maxRecDepth 100000 in
theorem ggX5_readAnswer_X4_allow : GoodIn wsX5_readAnswer wsX4_allow := goodIn_r _ [73, 11, 74, 96, 97, 98, 99, 100, 101, 102, 103, 104, 105] rfl (by decide +kernel)
set_option maxRecDepth 100000 in
theorem gX5_readAnswer_X4_allow : GoodIn wsX5_readAnswer (wsV RX5 164 RX4 yX4_allow wsX4_allow) := goodIn_app (goodIn_of _ (by decide +kernel)) ggX5_readAnswer_X4_allow
set_option maxRecDepth 100000 in
theorem ggX5_readSign_X10_isSign : GoodIn wsX5_readSign wsX10_isSign := goodIn_r _ [7, 8, 9, 42, 43, 44, 45, 46, 47, 48, 49] rfl (by decide +kernel)
set_option maxRecDepth 100000 in
theorem gX5_readSign_X10_isSign : GoodIn wsX5_readSign (wsV RX5 149 RX10 yX10_isSign wsX10_isSign) := goodIn_app (goodIn_of _ (by decide +kernel)) ggX5_readSign_X10_isSign
set_option maxRecDepth 100000 in
theorem ggX5_readSign_X5_stopAt : GoodIn wsX5_readSign wsX5_stopAt := goodIn_r _ [14, 15, 16, 38, 39, 40, 41] rfl (by decide +kernel)
set_option maxRecDepth 100000 in
theorem gX5_readSign_X5_stopAt : GoodIn wsX5_readSign (wsV RX5 53 RX5 yX5_stopAt wsX5_stopAt) := goodIn_app (goodIn_of _ (by decide +kernel)) ggX5_readSign_X5_stopAt
set_option maxRecDepth 100000 in
theorem ggX5_readSign_X10_advance : GoodIn wsX5_readSign wsX10_advance := goodIn_r _ [20, 21, 8, 22, 23, 24, 9, 25, 26, 27, 6, 28, 29, 30, 31, 32, 33, 34, 35, 36, 37, 42, 43, 44, 45, 46, 47, 48, 49] rfl (by decide +kernel)
set_option maxRecDepth 100000 in
theorem gX5_readSign_X10_advance : GoodIn wsX5_readSign (wsV RX5 70 RX10 yX10_advance wsX10_advance) := goodIn_app (goodIn_of _ (by decide +kernel)) ggX5_readSign_X10_advance
set_option maxRecDepth 100000 in
theorem ggX5_readOwn_X10_isOwn : GoodIn wsX5_readOwn wsX10_isOwn := goodIn_r _ [7, 8, 9, 42, 43, 44, 45, 46, 47, 48, 49] rfl (by decide +kernel)
set_option maxRecDepth 100000 in
theorem gX5_readOwn_X10_isOwn : GoodIn wsX5_readOwn (wsV RX5 152 RX10 yX10_isOwn wsX10_isOwn) := goodIn_app (goodIn_of _ (by decide +kernel)) ggX5_readOwn_X10_isOwn
set_option maxRecDepth 100000 in
theorem ggX5_readOwn_X5_stopAt : GoodIn wsX5_readOwn wsX5_stopAt := goodIn_r _ [14, 15, 16, 38, 39, 40, 41] rfl (by decide +kernel)
set_option maxRecDepth 100000 in
theorem gX5_readOwn_X5_stopAt : GoodIn wsX5_readOwn (wsV RX5 53 RX5 yX5_stopAt wsX5_stopAt) := goodIn_app (goodIn_of _ (by decide +kernel)) ggX5_readOwn_X5_stopAt
set_option maxRecDepth 100000 in
theorem ggX5_readOwn_X10_advance : GoodIn wsX5_readOwn wsX10_advance := goodIn_r _ [20, 21, 8, 22, 23, 24, 25, 9, 26, 27, 6, 28, 29, 30, 31, 32, 33, 34, 35, 36, 37, 42, 43, 44, 45, 46, 47, 48, 49] rfl (by decide +kernel)
set_option maxRecDepth 100000 in
theorem gX5_readOwn_X10_advance : GoodIn wsX5_readOwn (wsV RX5 70 RX10 yX10_advance wsX10_advance) := goodIn_app (goodIn_of _ (by decide +kernel)) ggX5_readOwn_X10_advance
set_option maxRecDepth 100000 in
theorem ggX5_readValue_X10_isSign : GoodIn wsX5_readValue wsX10_isSign := goodIn_r _ [10, 11, 12, 45, 46, 47, 48, 49, 50, 51, 52] rfl (by decide +kernel)
set_option maxRecDepth 100000 in
theorem gX5_readValue_X10_isSign : GoodIn wsX5_readValue (wsV RX5 149 RX10 yX10_isSign wsX10_isSign) := goodIn_app (goodIn_of _ (by decide +kernel)) ggX5_readValue_X10_isSign
set_option maxRecDepth 100000 in
theorem ggX5_readValue_X10_advance : GoodIn wsX5_readValue wsX10_advance := goodIn_r _ [16, 17, 11, 18, 19, 20, 12, 21, 22, 23, 9, 24, 25, 26, 27, 28, 29, 30, 31, 32, 33, 45, 46, 47, 48, 49, 50, 51, 52] rfl (by decide +kernel)
set_option maxRecDepth 100000 in
theorem gX5_readValue_X10_advance : GoodIn wsX5_readValue (wsV RX5 70 RX10 yX10_advance wsX10_advance) := goodIn_app (goodIn_of _ (by decide +kernel)) ggX5_readValue_X10_advance
set_option maxRecDepth 100000 in
theorem ggX5_readValue_X5_stopAt : GoodIn wsX5_readValue wsX5_stopAt := goodIn_r _ [38, 39, 40, 41, 42, 43, 44] rfl (by decide +kernel)
set_option maxRecDepth 100000 in
theorem gX5_readValue_X5_stopAt : GoodIn wsX5_readValue (wsV RX5 53 RX5 yX5_stopAt wsX5_stopAt) := goodIn_app (goodIn_of _ (by decide +kernel)) ggX5_readValue_X5_stopAt
set_option maxRecDepth 100000 in
theorem ggX5_readNewName_X10_isName : GoodIn wsX5_readNewName wsX10_isName := goodIn_r _ [10, 11, 12, 59, 60, 61, 62, 63, 64, 65, 66] rfl (by decide +kernel)
set_option maxRecDepth 100000 in
theorem gX5_readNewName_X10_isName : GoodIn wsX5_readNewName (wsV RX5 167 RX10 yX10_isName wsX10_isName) := goodIn_app (goodIn_of _ (by decide +kernel)) ggX5_readNewName_X10_isName
set_option maxRecDepth 100000 in
theorem ggX5_readNewName_X5_stopAt : GoodIn wsX5_readNewName wsX5_stopAt := goodIn_r _ [17, 18, 19, 55, 56, 57, 58] rfl (by decide +kernel)
set_option maxRecDepth 100000 in
theorem gX5_readNewName_X5_stopAt : GoodIn wsX5_readNewName (wsV RX5 53 RX5 yX5_stopAt wsX5_stopAt) := goodIn_app (goodIn_of _ (by decide +kernel)) ggX5_readNewName_X5_stopAt
set_option maxRecDepth 100000 in
theorem ggX5_readNewName_X9_findFormat : GoodIn wsX5_readNewName wsX9_findFormat := goodIn_r _ [24, 25, 26, 67, 68, 69, 70, 71, 72, 73, 74, 75] rfl (by decide +kernel)
set_option maxRecDepth 100000 in
theorem gX5_readNewName_X9_findFormat : GoodIn wsX5_readNewName (wsV RX5 155 RX9 yX9_findFormat wsX9_findFormat) := goodIn_app (goodIn_of _ (by decide +kernel)) ggX5_readNewName_X9_findFormat
set_option maxRecDepth 100000 in
theorem ggX5_readNewName_X4_find : GoodIn wsX5_readNewName wsX4_find := goodIn_r _ [31, 32, 33, 76, 77, 78, 79, 80, 81, 82, 83, 84, 85] rfl (by decide +kernel)
set_option maxRecDepth 100000 in
theorem gX5_readNewName_X4_find : GoodIn wsX5_readNewName (wsV RX5 141 RX4 yX4_find wsX4_find) := goodIn_app (goodIn_of _ (by decide +kernel)) ggX5_readNewName_X4_find
set_option maxRecDepth 100000 in
theorem ggX5_readNewName_X10_advance : GoodIn wsX5_readNewName wsX10_advance := goodIn_r _ [37, 38, 11, 39, 40, 41, 42, 12, 43, 44, 9, 45, 46, 47, 48, 49, 50, 51, 52, 53, 54, 59, 60, 61, 62, 63, 64, 65, 66] rfl (by decide +kernel)
set_option maxRecDepth 100000 in
theorem gX5_readNewName_X10_advance : GoodIn wsX5_readNewName (wsV RX5 70 RX10 yX10_advance wsX10_advance) := goodIn_app (goodIn_of _ (by decide +kernel)) ggX5_readNewName_X10_advance
set_option maxRecDepth 100000 in
theorem ggX5_readKnown_X10_isName : GoodIn wsX5_readKnown wsX10_isName := goodIn_r _ [8, 9, 10, 43, 44, 45, 46, 47, 48, 49, 50] rfl (by decide +kernel)
set_option maxRecDepth 100000 in
theorem gX5_readKnown_X10_isName : GoodIn wsX5_readKnown (wsV RX5 167 RX10 yX10_isName wsX10_isName) := goodIn_app (goodIn_of _ (by decide +kernel)) ggX5_readKnown_X10_isName
set_option maxRecDepth 100000 in
theorem ggX5_readKnown_X5_stopAt : GoodIn wsX5_readKnown wsX5_stopAt := goodIn_r _ [15, 16, 17, 39, 40, 41, 42] rfl (by decide +kernel)
set_option maxRecDepth 100000 in
theorem gX5_readKnown_X5_stopAt : GoodIn wsX5_readKnown (wsV RX5 53 RX5 yX5_stopAt wsX5_stopAt) := goodIn_app (goodIn_of _ (by decide +kernel)) ggX5_readKnown_X5_stopAt
set_option maxRecDepth 100000 in
theorem ggX5_readKnown_X10_advance : GoodIn wsX5_readKnown wsX10_advance := goodIn_r _ [21, 22, 9, 23, 24, 25, 26, 10, 27, 28, 7, 29, 30, 31, 32, 33, 34, 35, 36, 37, 38, 43, 44, 45, 46, 47, 48, 49, 50] rfl (by decide +kernel)
set_option maxRecDepth 100000 in
theorem gX5_readKnown_X10_advance : GoodIn wsX5_readKnown (wsV RX5 70 RX10 yX10_advance wsX10_advance) := goodIn_app (goodIn_of _ (by decide +kernel)) ggX5_readKnown_X10_advance
set_option maxRecDepth 100000 in
theorem ggX6_fill_X6_lowest : GoodIn wsX6_fill wsX6_lowest := goodIn_r _ [10, 11, 12, 13, 14, 15, 16, 17, 18, 9, 19, 2, 20, 21, 22, 23, 24, 25, 26, 27, 28, 29, 30, 31, 32, 33, 34, 35, 3, 36, 37, 38, 39, 40, 41, 42, 43, 44, 45, 46, 47, 48, 49, 50, 51, 52, 53, 54, 55, 56, 77, 78, 79, 80, 81, 82, 83, 84, 85, 86, 87, 88, 89] rfl (by decide +kernel)
set_option maxRecDepth 100000 in
theorem gX6_fill_X6_lowest : GoodIn wsX6_fill (wsV RX6 28 RX6 yX6_lowest wsX6_lowest) := goodIn_app (goodIn_of _ (by decide +kernel)) ggX6_fill_X6_lowest
set_option maxRecDepth 100000 in
theorem ggX6_fill_X6_held : GoodIn wsX6_fill wsX6_held := goodIn_r _ [59, 60, 61, 12, 13, 14, 15, 56, 42, 43] rfl (by decide +kernel)
set_option maxRecDepth 100000 in
theorem gX6_fill_X6_held : GoodIn wsX6_fill (va_wsS RX6 32 yX6_held wsX6_held) := goodIn_app (goodIn_of _ (by decide +kernel)) ggX6_fill_X6_held
set_option maxRecDepth 100000 in
theorem ggX6_fill_X6_highest : GoodIn wsX6_fill wsX6_highest := goodIn_r _ [65, 11, 56, 42, 14, 43, 32, 33, 34, 9, 35, 3, 20, 21, 22, 23, 24, 25, 26, 27, 28, 29, 30, 31, 16, 17, 18, 19, 2, 36, 37, 38, 39, 40, 13, 15, 41, 44, 45, 46, 47, 48, 49, 50, 51, 52, 53, 54, 55, 12, 77, 78, 79, 80, 81, 82, 83, 84, 85, 86, 87, 88, 89] rfl (by decide +kernel)
set_option maxRecDepth 100000 in
theorem gX6_fill_X6_highest : GoodIn wsX6_fill (wsV RX6 36 RX6 yX6_highest wsX6_highest) := goodIn_app (goodIn_of _ (by decide +kernel)) ggX6_fill_X6_highest
set_option maxRecDepth 100000 in
theorem ggX6_fill_X6_amountOf : GoodIn wsX6_fill wsX6_amountOf := goodIn_r _ [69, 2, 70, 71, 14, 72, 3, 56, 42, 43, 87, 88, 89] rfl (by decide +kernel)
set_option maxRecDepth 100000 in
theorem gX6_fill_X6_amountOf : GoodIn wsX6_fill (wsV RX6 39 RX6 yX6_amountOf wsX6_amountOf) := goodIn_app (goodIn_of _ (by decide +kernel)) ggX6_fill_X6_amountOf
set_option maxRecDepth 100000 in
theorem ggX6_fill_X4_madeOf : GoodIn wsX6_fill wsX4_madeOf := goodIn_r _ [24, 25, 26, 77, 78, 79, 80, 81, 82, 83, 84, 85, 86] rfl (by decide +kernel)
set_option maxRecDepth 100000 in
theorem gX6_fill_X4_madeOf : GoodIn wsX6_fill (wsV RX6 45 RX4 yX4_madeOf wsX4_madeOf) := goodIn_app (goodIn_of _ (by decide +kernel)) ggX6_fill_X4_madeOf
set_option maxRecDepth 100000 in
theorem ggX6_fill_X6_isWide : GoodIn wsX6_fill wsX6_isWide := goodIn_r _ [76, 4, 87, 88, 89] rfl (by decide +kernel)
set_option maxRecDepth 100000 in
theorem gX6_fill_X6_isWide : GoodIn wsX6_fill (wsV RX6 49 RX6 yX6_isWide wsX6_isWide) := goodIn_app (goodIn_of _ (by decide +kernel)) ggX6_fill_X6_isWide
set_option maxRecDepth 100000 in
theorem ggX6_amountOfWhat_X4_madeOf : GoodIn wsX6_amountOfWhat wsX4_madeOf := goodIn_r _ [14, 15, 16, 25, 26, 27, 28, 29, 30, 31, 32, 33, 34] rfl (by decide +kernel)
set_option maxRecDepth 100000 in
theorem gX6_amountOfWhat_X4_madeOf : GoodIn wsX6_amountOfWhat (wsV RX6 45 RX4 yX4_madeOf wsX4_madeOf) := goodIn_app (goodIn_of _ (by decide +kernel)) ggX6_amountOfWhat_X4_madeOf
set_option maxRecDepth 100000 in
theorem ggX6_amountOfWhat_X4_amountOf : GoodIn wsX6_amountOfWhat wsX4_amountOf := goodIn_r _ [20, 15, 21, 25, 26, 27, 28, 29, 30, 31, 32, 33, 34] rfl (by decide +kernel)
set_option maxRecDepth 100000 in
theorem gX6_amountOfWhat_X4_amountOf : GoodIn wsX6_amountOfWhat (wsV RX6 69 RX4 yX4_amountOf wsX4_amountOf) := goodIn_app (goodIn_of _ (by decide +kernel)) ggX6_amountOfWhat_X4_amountOf
set_option maxRecDepth 100000 in
theorem ggX6_lowOf_X4_madeOf : GoodIn wsX6_lowOf wsX4_madeOf := goodIn_r _ [6, 7, 8, 17, 18, 19, 20, 21, 22, 23, 24, 25, 26] rfl (by decide +kernel)
set_option maxRecDepth 100000 in
theorem gX6_lowOf_X4_madeOf : GoodIn wsX6_lowOf (wsV RX6 45 RX4 yX4_madeOf wsX4_madeOf) := goodIn_app (goodIn_of _ (by decide +kernel)) ggX6_lowOf_X4_madeOf
