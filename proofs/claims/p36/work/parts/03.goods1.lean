set_option maxRecDepth 100000 in
theorem ggX6_lowOf_X4_amountOf : GoodIn wsX6_lowOf wsX4_amountOf := goodIn_r _ [12, 7, 13, 17, 18, 19, 20, 21, 22, 23, 24, 25, 26] rfl (by decide +kernel)
set_option maxRecDepth 100000 in
theorem gX6_lowOf_X4_amountOf : GoodIn wsX6_lowOf (wsV RX6 69 RX4 yX4_amountOf wsX4_amountOf) := goodIn_app (goodIn_of _ (by decide +kernel)) ggX6_lowOf_X4_amountOf
set_option maxRecDepth 100000 in
theorem ggX6_highOf_X4_madeOf : GoodIn wsX6_highOf wsX4_madeOf := goodIn_r _ [6, 7, 8, 17, 18, 19, 20, 21, 22, 23, 24, 25, 26] rfl (by decide +kernel)
set_option maxRecDepth 100000 in
theorem gX6_highOf_X4_madeOf : GoodIn wsX6_highOf (wsV RX6 45 RX4 yX4_madeOf wsX4_madeOf) := goodIn_app (goodIn_of _ (by decide +kernel)) ggX6_highOf_X4_madeOf
set_option maxRecDepth 100000 in
theorem ggX6_highOf_X4_amountOf : GoodIn wsX6_highOf wsX4_amountOf := goodIn_r _ [12, 7, 13, 17, 18, 19, 20, 21, 22, 23, 24, 25, 26] rfl (by decide +kernel)
set_option maxRecDepth 100000 in
theorem gX6_highOf_X4_amountOf : GoodIn wsX6_highOf (wsV RX6 69 RX4 yX4_amountOf wsX4_amountOf) := goodIn_app (goodIn_of _ (by decide +kernel)) ggX6_highOf_X4_amountOf
set_option maxRecDepth 100000 in
theorem ggX6_lowest_X6_lowOf : GoodIn wsX6_lowest wsX6_lowOf := goodIn_r _ [10, 11, 12, 13, 14, 15, 16, 17, 18, 19, 20, 21, 22, 23, 60, 61, 62, 50, 51, 52, 53, 54, 55, 56, 57, 58, 59] rfl (by decide +kernel)
set_option maxRecDepth 100000 in
theorem gX6_lowest_X6_lowOf : GoodIn wsX6_lowest (wsV RX6 76 RX6 yX6_lowOf wsX6_lowOf) := goodIn_app (goodIn_of _ (by decide +kernel)) ggX6_lowest_X6_lowOf
set_option maxRecDepth 100000 in
theorem ggX6_lowest_X6_highOf : GoodIn wsX6_lowest wsX6_highOf := goodIn_r _ [27, 28, 12, 13, 14, 15, 16, 17, 18, 19, 20, 21, 22, 23, 60, 61, 62, 50, 51, 52, 53, 54, 55, 56, 57, 58, 59] rfl (by decide +kernel)
set_option maxRecDepth 100000 in
theorem gX6_lowest_X6_highOf : GoodIn wsX6_lowest (wsV RX6 80 RX6 yX6_highOf wsX6_highOf) := goodIn_app (goodIn_of _ (by decide +kernel)) ggX6_lowest_X6_highOf
set_option maxRecDepth 100000 in
theorem ggX6_lowest_X11_apply : GoodIn wsX6_lowest wsX11_apply := goodIn_r _ [31, 32, 33, 3, 4, 5, 34, 35, 36, 37, 38, 30, 39, 40, 41, 42, 43, 44] rfl (by decide +kernel)
set_option maxRecDepth 100000 in
theorem gX6_lowest_X11_apply_n83 : GoodIn wsX6_lowest (wsX11_apply) := ggX6_lowest_X11_apply
set_option maxRecDepth 100000 in
theorem ggX6_lowest_X6_endProduct : GoodIn wsX6_lowest wsX6_endProduct := goodIn_r _ [48, 49, 35, 4, 36, 2, 3, 5, 6, 7, 8, 9, 10, 11, 12, 13, 14, 15, 16, 17, 18, 19, 20, 21, 22, 23, 29, 30, 31, 32, 33, 34, 37, 38, 39, 40, 41, 42, 43, 44, 24, 25, 26, 27, 28, 60, 61, 62, 50, 51, 52, 53, 54, 55, 56, 57, 58, 59] rfl (by decide +kernel)
set_option maxRecDepth 100000 in
theorem gX6_lowest_X6_endProduct : GoodIn wsX6_lowest (wsV RX6 87 RX6 yX6_endProduct wsX6_endProduct) := goodIn_app (goodIn_of _ (by decide +kernel)) ggX6_lowest_X6_endProduct
set_option maxRecDepth 100000 in
theorem ggX6_highest_X6_highOf : GoodIn wsX6_highest wsX6_highOf := goodIn_r _ [10, 11, 12, 13, 14, 15, 16, 17, 18, 19, 20, 21, 22, 23, 60, 61, 62, 50, 51, 52, 53, 54, 55, 56, 57, 58, 59] rfl (by decide +kernel)
set_option maxRecDepth 100000 in
theorem gX6_highest_X6_highOf : GoodIn wsX6_highest (wsV RX6 80 RX6 yX6_highOf wsX6_highOf) := goodIn_app (goodIn_of _ (by decide +kernel)) ggX6_highest_X6_highOf
set_option maxRecDepth 100000 in
theorem ggX6_highest_X6_lowOf : GoodIn wsX6_highest wsX6_lowOf := goodIn_r _ [27, 28, 12, 13, 14, 15, 16, 17, 18, 19, 20, 21, 22, 23, 60, 61, 62, 50, 51, 52, 53, 54, 55, 56, 57, 58, 59] rfl (by decide +kernel)
set_option maxRecDepth 100000 in
theorem gX6_highest_X6_lowOf : GoodIn wsX6_highest (wsV RX6 76 RX6 yX6_lowOf wsX6_lowOf) := goodIn_app (goodIn_of _ (by decide +kernel)) ggX6_highest_X6_lowOf
set_option maxRecDepth 100000 in
theorem ggX6_highest_X11_apply : GoodIn wsX6_highest wsX11_apply := goodIn_r _ [31, 32, 33, 34, 4, 35, 36, 3, 5, 37, 38, 30, 39, 40, 41, 42, 43, 44] rfl (by decide +kernel)
set_option maxRecDepth 100000 in
theorem gX6_highest_X11_apply_n83 : GoodIn wsX6_highest (wsX11_apply) := ggX6_highest_X11_apply
set_option maxRecDepth 100000 in
theorem ggX6_highest_X6_endProduct : GoodIn wsX6_highest wsX6_endProduct := goodIn_r _ [48, 2, 3, 4, 5, 49, 34, 35, 24, 25, 26, 9, 27, 28, 12, 13, 14, 15, 16, 17, 18, 19, 20, 21, 22, 23, 29, 30, 31, 32, 33, 36, 37, 38, 39, 40, 41, 42, 43, 44, 6, 7, 8, 10, 11, 60, 61, 62, 50, 51, 52, 53, 54, 55, 56, 57, 58, 59] rfl (by decide +kernel)
set_option maxRecDepth 100000 in
theorem gX6_highest_X6_endProduct : GoodIn wsX6_highest (wsV RX6 87 RX6 yX6_endProduct wsX6_endProduct) := goodIn_app (goodIn_of _ (by decide +kernel)) ggX6_highest_X6_endProduct
set_option maxRecDepth 100000 in
theorem ggX6_endProduct_X6_lowOf : GoodIn wsX6_endProduct wsX6_lowOf := goodIn_r _ [12, 13, 14, 15, 16, 17, 18, 19, 20, 21, 22, 23, 24, 25, 45, 46, 47, 48, 49, 50, 51, 52, 53, 54, 55, 56, 57] rfl (by decide +kernel)
set_option maxRecDepth 100000 in
theorem gX6_endProduct_X6_lowOf : GoodIn wsX6_endProduct (wsV RX6 76 RX6 yX6_lowOf wsX6_lowOf) := goodIn_app (goodIn_of _ (by decide +kernel)) ggX6_endProduct_X6_lowOf
set_option maxRecDepth 100000 in
theorem ggX6_endProduct_X11_apply : GoodIn wsX6_endProduct wsX11_apply := goodIn_r _ [28, 29, 30, 6, 3, 7, 31, 2, 4, 32, 33, 27, 34, 35, 36, 37, 38, 39] rfl (by decide +kernel)
set_option maxRecDepth 100000 in
theorem gX6_endProduct_X11_apply_n83 : GoodIn wsX6_endProduct (wsX11_apply) := ggX6_endProduct_X11_apply
set_option maxRecDepth 100000 in
theorem ggX6_endProduct_X6_highOf : GoodIn wsX6_endProduct wsX6_highOf := goodIn_r _ [43, 44, 14, 15, 16, 17, 18, 19, 20, 21, 22, 23, 24, 25, 45, 46, 47, 48, 49, 50, 51, 52, 53, 54, 55, 56, 57] rfl (by decide +kernel)
set_option maxRecDepth 100000 in
theorem gX6_endProduct_X6_highOf : GoodIn wsX6_endProduct (wsV RX6 80 RX6 yX6_highOf wsX6_highOf) := goodIn_app (goodIn_of _ (by decide +kernel)) ggX6_endProduct_X6_highOf
set_option maxRecDepth 100000 in
theorem ggX7_reckon_X7_errorOf : GoodIn wsX7_reckon wsX7_errorOf := goodIn_r _ [11, 3, 12, 13, 14, 15, 16, 17, 18, 19, 20, 21, 22, 23, 24, 25, 26, 27, 28, 29, 30, 31, 32, 33, 34, 35, 36, 10, 37, 5, 38, 39, 40, 41, 42, 43, 44, 45, 46, 47, 48, 49, 50, 51, 52, 53, 54, 55, 56, 57, 58, 59, 60, 61, 62, 63, 64, 65, 87, 88, 89, 90, 91, 92, 93, 94, 95, 96, 97, 98, 99, 100, 101, 102, 103, 104, 105, 106, 107, 108, 109, 110, 111, 84, 85, 86, 112, 113, 114] rfl (by decide +kernel)
set_option maxRecDepth 100000 in
theorem gX7_reckon_X7_errorOf : GoodIn wsX7_reckon (wsV RX7 33 RX7 yX7_errorOf wsX7_errorOf) := goodIn_app (goodIn_of _ (by decide +kernel)) ggX7_reckon_X7_errorOf
set_option maxRecDepth 100000 in
theorem ggX7_reckon_X9_formatOf : GoodIn wsX7_reckon wsX9_formatOf := goodIn_r _ [23, 24, 25, 26, 27, 87, 88, 89, 90, 91, 92, 93, 94, 95, 96, 97, 98, 99, 100, 101, 102, 103, 104, 105, 106, 107, 108, 109, 110, 111] rfl (by decide +kernel)
set_option maxRecDepth 100000 in
theorem gX7_reckon_X9_formatOf : GoodIn wsX7_reckon (wsV RX7 37 RX9 yX9_formatOf wsX9_formatOf) := goodIn_app (goodIn_of _ (by decide +kernel)) ggX7_reckon_X9_formatOf
set_option maxRecDepth 100000 in
theorem ggX7_reckon_X9_mostOf : GoodIn wsX7_reckon wsX9_mostOf := goodIn_r _ [69, 32, 70, 87, 88, 89, 90, 91, 92, 93, 94, 95] rfl (by decide +kernel)
set_option maxRecDepth 100000 in
theorem gX7_reckon_X9_mostOf : GoodIn wsX7_reckon (wsV RX7 41 RX9 yX9_mostOf wsX9_mostOf) := goodIn_app (goodIn_of _ (by decide +kernel)) ggX7_reckon_X9_mostOf
set_option maxRecDepth 100000 in
theorem ggX7_reckon_X6_amountOf : GoodIn wsX7_reckon wsX6_amountOf := goodIn_r _ [74, 61, 58, 59, 15, 60, 62, 63, 14, 16, 112, 113, 114] rfl (by decide +kernel)
set_option maxRecDepth 100000 in
theorem gX7_reckon_X6_amountOf : GoodIn wsX7_reckon (wsV RX7 45 RX6 yX6_amountOf wsX6_amountOf) := goodIn_app (goodIn_of _ (by decide +kernel)) ggX7_reckon_X6_amountOf
set_option maxRecDepth 100000 in
theorem ggX7_reckon_X9_isAnswer : GoodIn wsX7_reckon wsX9_isAnswer := goodIn_r _ [78, 24, 79, 80, 81, 82, 22, 83, 25, 87, 88, 89, 90, 91, 92, 93, 94, 95, 96, 97, 98, 99, 100, 101, 102, 103, 104, 105] rfl (by decide +kernel)
set_option maxRecDepth 100000 in
theorem gX7_reckon_X9_isAnswer : GoodIn wsX7_reckon (wsV RX7 51 RX9 yX9_isAnswer wsX9_isAnswer) := goodIn_app (goodIn_of _ (by decide +kernel)) ggX7_reckon_X9_isAnswer
set_option maxRecDepth 100000 in
theorem ggX7_errorOf_X9_formatOf : GoodIn wsX7_errorOf wsX9_formatOf := goodIn_r _ [13, 14, 15, 16, 17, 58, 59, 60, 61, 62, 63, 64, 65, 66, 67, 68, 69, 70, 71, 72, 73, 74, 75, 76, 77, 78, 79, 80, 81, 82] rfl (by decide +kernel)
set_option maxRecDepth 100000 in
theorem gX7_errorOf_X9_formatOf : GoodIn wsX7_errorOf (wsV RX7 37 RX9 yX9_formatOf wsX9_formatOf) := goodIn_app (goodIn_of _ (by decide +kernel)) ggX7_errorOf_X9_formatOf
set_option maxRecDepth 100000 in
theorem ggX7_errorOf_X9_stepOf : GoodIn wsX7_errorOf wsX9_stepOf := goodIn_r _ [21, 22, 23, 58, 59, 60, 61, 62, 63, 64, 65, 66] rfl (by decide +kernel)
set_option maxRecDepth 100000 in
theorem gX7_errorOf_X9_stepOf : GoodIn wsX7_errorOf (wsV RX7 59 RX9 yX9_stepOf wsX9_stepOf) := goodIn_app (goodIn_of _ (by decide +kernel)) ggX7_errorOf_X9_stepOf
set_option maxRecDepth 100000 in
theorem ggX7_errorOf_X7_errorBehindCast : GoodIn wsX7_errorOf wsX7_errorBehindCast := goodIn_r _ [28, 1, 29, 9, 10, 11, 12, 13, 14, 15, 16, 17, 18, 19, 20, 21, 22, 23, 30, 31, 32, 33, 34, 35, 36, 37, 38, 39, 40, 41, 42, 43, 44, 58, 59, 60, 61, 62, 63, 64, 65, 66, 83, 84, 85, 67, 68, 69, 70, 71, 72, 73, 74, 75, 76, 77, 78, 79, 80, 81, 82] rfl (by decide +kernel)
set_option maxRecDepth 100000 in
theorem gX7_errorOf_X7_errorBehindCast : GoodIn wsX7_errorOf (wsV RX7 65 RX7 yX7_errorBehindCast wsX7_errorBehindCast) := goodIn_app (goodIn_of _ (by decide +kernel)) ggX7_errorOf_X7_errorBehindCast
set_option maxRecDepth 100000 in
theorem ggX7_errorOf_X6_amountOfWhat : GoodIn wsX7_errorOf wsX6_amountOfWhat := goodIn_r _ [49, 50, 51, 5, 52, 53, 54, 55, 4, 6, 56, 31, 32, 33, 34, 35, 36, 57, 38, 39, 40, 41, 86, 87, 88, 67, 68, 69, 70, 71, 72, 73, 74, 75, 76] rfl (by decide +kernel)
set_option maxRecDepth 100000 in
theorem gX7_errorOf_X6_amountOfWhat : GoodIn wsX7_errorOf (wsV RX7 75 RX6 yX6_amountOfWhat wsX6_amountOfWhat) := goodIn_app (goodIn_of _ (by decide +kernel)) ggX7_errorOf_X6_amountOfWhat
set_option maxRecDepth 100000 in
theorem ggX7_errorBehindCast_X9_formatOf : GoodIn wsX7_errorBehindCast wsX9_formatOf := goodIn_r _ [7, 8, 9, 10, 11, 33, 34, 35, 36, 37, 38, 39, 40, 41, 45, 46, 47, 48, 49, 50, 51, 52, 53, 54, 55, 56, 57, 58, 59, 60] rfl (by decide +kernel)
set_option maxRecDepth 100000 in
theorem gX7_errorBehindCast_X9_formatOf : GoodIn wsX7_errorBehindCast (wsV RX7 37 RX9 yX9_formatOf wsX9_formatOf) := goodIn_app (goodIn_of _ (by decide +kernel)) ggX7_errorBehindCast_X9_formatOf
set_option maxRecDepth 100000 in
theorem ggX7_errorBehindCast_X9_stepOf : GoodIn wsX7_errorBehindCast wsX9_stepOf := goodIn_r _ [15, 16, 17, 33, 34, 35, 36, 37, 38, 39, 40, 41] rfl (by decide +kernel)
set_option maxRecDepth 100000 in
theorem gX7_errorBehindCast_X9_stepOf : GoodIn wsX7_errorBehindCast (wsV RX7 59 RX9 yX9_stepOf wsX9_stepOf) := goodIn_app (goodIn_of _ (by decide +kernel)) ggX7_errorBehindCast_X9_stepOf
set_option maxRecDepth 100000 in
theorem ggX7_errorBehindCast_X4_madeOf : GoodIn wsX7_errorBehindCast wsX4_madeOf := goodIn_r _ [22, 23, 24, 45, 46, 47, 48, 49, 50, 51, 52, 53, 54] rfl (by decide +kernel)
set_option maxRecDepth 100000 in
theorem gX7_errorBehindCast_X4_madeOf : GoodIn wsX7_errorBehindCast (wsV RX7 83 RX4 yX4_madeOf wsX4_madeOf) := goodIn_app (goodIn_of _ (by decide +kernel)) ggX7_errorBehindCast_X4_madeOf
set_option maxRecDepth 100000 in
theorem ggX7_errorBehindCast_X4_amountOf : GoodIn wsX7_errorBehindCast wsX4_amountOf := goodIn_r _ [28, 23, 29, 45, 46, 47, 48, 49, 50, 51, 52, 53, 54] rfl (by decide +kernel)
set_option maxRecDepth 100000 in
theorem gX7_errorBehindCast_X4_amountOf : GoodIn wsX7_errorBehindCast (wsV RX7 87 RX4 yX4_amountOf wsX4_amountOf) := goodIn_app (goodIn_of _ (by decide +kernel)) ggX7_errorBehindCast_X4_amountOf
set_option maxRecDepth 100000 in
theorem ggX7_errorBehindCast_X11_divides : GoodIn wsX7_errorBehindCast wsX11_divides := goodIn_r _ [32] rfl (by decide +kernel)
set_option maxRecDepth 100000 in
theorem gX7_errorBehindCast_X11_divides_n90 : GoodIn wsX7_errorBehindCast (wsX11_divides) := ggX7_errorBehindCast_X11_divides
set_option maxRecDepth 100000 in
theorem ggX8_sample_X9_formatOf : GoodIn wsX8_sample wsX9_formatOf := goodIn_r _ [13, 14, 15, 16, 17, 59, 60, 61, 62, 63, 64, 65, 66, 67, 68, 69, 70, 71, 72, 73, 74, 75, 76, 77, 80, 81, 82, 83, 84, 85] rfl (by decide +kernel)
set_option maxRecDepth 100000 in
theorem gX8_sample_X9_formatOf : GoodIn wsX8_sample (wsV RX8 30 RX9 yX9_formatOf wsX9_formatOf) := goodIn_app (goodIn_of _ (by decide +kernel)) ggX8_sample_X9_formatOf
set_option maxRecDepth 100000 in
theorem ggX8_sample_X9_stepOf : GoodIn wsX8_sample wsX9_stepOf := goodIn_r _ [21, 22, 23, 59, 60, 61, 62, 63, 64, 65, 66, 67] rfl (by decide +kernel)
set_option maxRecDepth 100000 in
theorem gX8_sample_X9_stepOf : GoodIn wsX8_sample (wsV RX8 34 RX9 yX9_stepOf wsX9_stepOf) := goodIn_app (goodIn_of _ (by decide +kernel)) ggX8_sample_X9_stepOf
set_option maxRecDepth 100000 in
theorem ggX8_sample_X4_amountOf : GoodIn wsX8_sample wsX4_amountOf := goodIn_r _ [28, 29, 30, 68, 69, 70, 71, 72, 73, 74, 75, 76, 77] rfl (by decide +kernel)
set_option maxRecDepth 100000 in
theorem gX8_sample_X4_amountOf : GoodIn wsX8_sample (wsV RX8 48 RX4 yX4_amountOf wsX4_amountOf) := goodIn_app (goodIn_of _ (by decide +kernel)) ggX8_sample_X4_amountOf
set_option maxRecDepth 100000 in
theorem ggX8_sample_X11_nearest : GoodIn wsX8_sample wsX11_nearest := goodIn_r _ [33, 34, 35, 36, 37, 38] rfl (by decide +kernel)
set_option maxRecDepth 100000 in
theorem gX8_sample_X11_nearest_n52 : GoodIn wsX8_sample (wsX11_nearest) := ggX8_sample_X11_nearest
set_option maxRecDepth 100000 in
theorem ggX8_sample_X8_whatOf : GoodIn wsX8_sample wsX8_whatOf := goodIn_r _ [42, 1, 43, 44, 45, 27, 46, 29, 47, 24, 25, 26, 28, 30, 59, 60, 61, 62, 63, 64, 65, 66, 67, 68, 69, 70, 71, 72, 73, 74, 75, 76, 77] rfl (by decide +kernel)
set_option maxRecDepth 100000 in
theorem gX8_sample_X8_whatOf : GoodIn wsX8_sample (va_wsS RX8 56 yX8_whatOf wsX8_whatOf) := goodIn_app (goodIn_of _ (by decide +kernel)) ggX8_sample_X8_whatOf
set_option maxRecDepth 100000 in
theorem ggX8_sample_X11_apply : GoodIn wsX8_sample wsX11_apply := goodIn_r _ [49, 50, 51, 52, 53, 54, 55, 56, 57, 58, 31, 32, 33, 34, 35, 36, 37, 38] rfl (by decide +kernel)
set_option maxRecDepth 100000 in
theorem gX8_sample_X11_apply_n60 : GoodIn wsX8_sample (wsX11_apply) := ggX8_sample_X11_apply
set_option maxRecDepth 100000 in
theorem ggX8_whatOf_X4_madeOf : GoodIn wsX8_whatOf wsX4_madeOf := goodIn_r _ [6, 7, 8, 23, 24, 25, 26, 27, 28, 29, 30, 31, 32] rfl (by decide +kernel)
set_option maxRecDepth 100000 in
theorem gX8_whatOf_X4_madeOf : GoodIn wsX8_whatOf (wsV RX8 64 RX4 yX4_madeOf wsX4_madeOf) := goodIn_app (goodIn_of _ (by decide +kernel)) ggX8_whatOf_X4_madeOf
set_option maxRecDepth 100000 in
theorem ggX8_whatOf_X4_amountOf : GoodIn wsX8_whatOf wsX4_amountOf := goodIn_r _ [12, 7, 13, 23, 24, 25, 26, 27, 28, 29, 30, 31, 32] rfl (by decide +kernel)
set_option maxRecDepth 100000 in
theorem gX8_whatOf_X4_amountOf : GoodIn wsX8_whatOf (wsV RX8 48 RX4 yX4_amountOf wsX4_amountOf) := goodIn_app (goodIn_of _ (by decide +kernel)) ggX8_whatOf_X4_amountOf
set_option maxRecDepth 100000 in
theorem ggX9_init_X4_init : GoodIn wsX9_init wsX4_init := goodIn_r _ [22, 23, 2, 3, 4, 24, 25, 26, 27, 28, 29, 30, 31, 55, 56, 57, 58, 59, 60, 61, 62, 63, 64] rfl (by decide +kernel)
set_option maxRecDepth 100000 in
theorem gX9_init_X4_init_n26 : GoodIn wsX9_init (wsX4_init) := ggX9_init_X4_init
set_option maxRecDepth 100000 in
theorem ggX9_init_X2_init : GoodIn wsX9_init wsX2_init := goodIn_r _ [33, 34, 2, 3, 4, 35, 36, 37, 65, 66, 67, 68, 69, 70] rfl (by decide +kernel)
set_option maxRecDepth 100000 in
theorem gX9_init_X2_init_n33 : GoodIn wsX9_init (wsX2_init) := ggX9_init_X2_init
set_option maxRecDepth 100000 in
theorem ggX9_init_X6_init : GoodIn wsX9_init wsX6_init := goodIn_r _ [39, 40, 2, 3, 41, 42, 43, 44, 45, 71, 72, 73] rfl (by decide +kernel)
set_option maxRecDepth 100000 in
theorem gX9_init_X6_init_n40 : GoodIn wsX9_init (wsX6_init) := ggX9_init_X6_init
set_option maxRecDepth 100000 in
theorem ggX9_settle_X2_gather : GoodIn wsX9_settle wsX2_gather := goodIn_r _ [8, 9, 10, 11, 12, 13, 14, 15, 16, 17, 18, 19, 7, 20, 21, 22, 23, 24, 25, 115, 116, 117, 118, 119, 120, 121, 122, 123, 124, 125, 126, 127, 128, 129, 130] rfl (by decide +kernel)
set_option maxRecDepth 100000 in
theorem gX9_settle_X2_gather : GoodIn wsX9_settle (wsV RX9 58 RX2 yX2_gather wsX2_gather) := goodIn_app (goodIn_of _ (by decide +kernel)) ggX9_settle_X2_gather
set_option maxRecDepth 100000 in
theorem ggX9_settle_X6_fill : GoodIn wsX9_settle wsX6_fill := goodIn_r _ [30, 31, 32, 33, 34, 35, 36, 37, 38, 29, 39, 40, 41, 42, 43, 44, 45, 46, 47, 48, 49, 50, 51, 52, 53, 54, 55, 56, 57, 58, 59, 60, 61, 62, 63, 64, 65, 66, 67, 68, 69, 70, 71, 72, 73, 74, 75, 76, 77, 78, 79, 80, 81, 82, 83, 84, 85, 86, 87, 88, 89, 90, 91, 92, 93, 94, 95, 96, 97, 98, 99, 100, 101, 102, 103, 104, 105, 121, 122, 123, 124, 125, 126, 127, 128, 129, 130, 131, 132, 133] rfl (by decide +kernel)
set_option maxRecDepth 100000 in
theorem gX9_settle_X6_fill : GoodIn wsX9_settle (wsV RX9 62 RX6 yX6_fill wsX6_fill) := goodIn_app (goodIn_of _ (by decide +kernel)) ggX9_settle_X6_fill
set_option maxRecDepth 100000 in
theorem ggX9_isAnswer_X9_hasNumber : GoodIn wsX9_isAnswer wsX9_hasNumber := goodIn_r _ [7, 1, 8, 9, 10, 11, 12, 13, 14, 15, 16, 17, 18, 19, 20, 21, 22, 23, 24, 25, 26, 27] rfl (by decide +kernel)
set_option maxRecDepth 100000 in
theorem gX9_isAnswer_X9_hasNumber : GoodIn wsX9_isAnswer (wsV RX9 70 RX9 yX9_hasNumber wsX9_hasNumber) := goodIn_app (goodIn_of _ (by decide +kernel)) ggX9_isAnswer_X9_hasNumber
set_option maxRecDepth 100000 in
theorem ggX9_isInput_X9_hasNumber : GoodIn wsX9_isInput wsX9_hasNumber := goodIn_r _ [7, 1, 8, 9, 10, 11, 12, 13, 14, 15, 16, 17, 18, 19, 20, 21, 22, 23, 24, 25, 26, 27] rfl (by decide +kernel)
set_option maxRecDepth 100000 in
theorem gX9_isInput_X9_hasNumber : GoodIn wsX9_isInput (wsV RX9 70 RX9 yX9_hasNumber wsX9_hasNumber) := goodIn_app (goodIn_of _ (by decide +kernel)) ggX9_isInput_X9_hasNumber
set_option maxRecDepth 100000 in
theorem ggX9_isFree_X9_hasNumber : GoodIn wsX9_isFree wsX9_hasNumber := goodIn_r _ [7, 8, 9, 17, 18, 19, 20, 21, 22, 23, 24, 25, 32, 33, 34, 35, 36, 37, 38, 39, 40, 41] rfl (by decide +kernel)
set_option maxRecDepth 100000 in
theorem gX9_isFree_X9_hasNumber : GoodIn wsX9_isFree (wsV RX9 70 RX9 yX9_hasNumber wsX9_hasNumber) := goodIn_app (goodIn_of _ (by decide +kernel)) ggX9_isFree_X9_hasNumber
set_option maxRecDepth 100000 in
theorem ggX9_isFree_X2_isFree : GoodIn wsX9_isFree wsX2_isFree := goodIn_r _ [14, 15, 16, 26, 27, 28, 29, 30, 31] rfl (by decide +kernel)
set_option maxRecDepth 100000 in
theorem gX9_isFree_X2_isFree : GoodIn wsX9_isFree (wsV RX9 83 RX2 yX2_isFree wsX2_isFree) := goodIn_app (goodIn_of _ (by decide +kernel)) ggX9_isFree_X2_isFree
set_option maxRecDepth 100000 in
theorem ggX9_castsOf_X4_madeOf : GoodIn wsX9_castsOf wsX4_madeOf := goodIn_r _ [7, 8, 9, 26, 27, 28, 29, 30, 31, 32, 33, 34, 35] rfl (by decide +kernel)
set_option maxRecDepth 100000 in
theorem gX9_castsOf_X4_madeOf : GoodIn wsX9_castsOf (wsV RX9 86 RX4 yX4_madeOf wsX4_madeOf) := goodIn_app (goodIn_of _ (by decide +kernel)) ggX9_castsOf_X4_madeOf
set_option maxRecDepth 100000 in
theorem ggX9_castsOf_X9_formatOf : GoodIn wsX9_castsOf wsX9_formatOf := goodIn_r _ [14, 1, 2, 15, 16, 17, 18, 19, 20, 21, 22, 23, 24, 25, 26, 27, 28, 29, 30, 31, 32, 33, 34, 35, 36, 37, 38, 39, 40, 41] rfl (by decide +kernel)
set_option maxRecDepth 100000 in
theorem gX9_castsOf_X9_formatOf : GoodIn wsX9_castsOf (wsV RX9 90 RX9 yX9_formatOf wsX9_formatOf) := goodIn_app (goodIn_of _ (by decide +kernel)) ggX9_castsOf_X9_formatOf
set_option maxRecDepth 100000 in
theorem ggX9_priceOf_X9_castsOf : GoodIn wsX9_priceOf wsX9_castsOf := goodIn_r _ [9, 2, 3, 10, 11, 12, 13, 14, 15, 16, 17, 18, 19, 8, 20, 21, 22, 28, 29, 30, 31, 32, 33, 34, 35, 36, 37, 38, 39, 40, 41, 42, 43, 44, 45, 46, 47, 48, 49, 50, 51, 52] rfl (by decide +kernel)
set_option maxRecDepth 100000 in
theorem gX9_priceOf_X9_castsOf : GoodIn wsX9_priceOf (wsV RX9 94 RX9 yX9_castsOf wsX9_castsOf) := goodIn_app (goodIn_of _ (by decide +kernel)) ggX9_priceOf_X9_castsOf
set_option maxRecDepth 100000 in
theorem ggX9_priceOf_X9_formatOf : GoodIn wsX9_priceOf wsX9_formatOf := goodIn_r _ [20, 2, 3, 21, 22, 28, 29, 30, 31, 32, 33, 34, 35, 36, 37, 38, 39, 40, 41, 42, 43, 44, 45, 46, 47, 48, 49, 50, 51, 52] rfl (by decide +kernel)
set_option maxRecDepth 100000 in
theorem gX9_priceOf_X9_formatOf : GoodIn wsX9_priceOf (wsV RX9 90 RX9 yX9_formatOf wsX9_formatOf) := goodIn_app (goodIn_of _ (by decide +kernel)) ggX9_priceOf_X9_formatOf
set_option maxRecDepth 100000 in
theorem ggX9_priceOf_X9_hasFormat : GoodIn wsX9_priceOf wsX9_hasFormat := goodIn_r _ [26, 27, 28, 29, 30, 31, 32, 33, 34, 35, 36] rfl (by decide +kernel)
set_option maxRecDepth 100000 in
theorem gX9_priceOf_X9_hasFormat : GoodIn wsX9_priceOf (wsV RX9 98 RX9 yX9_hasFormat wsX9_hasFormat) := goodIn_app (goodIn_of _ (by decide +kernel)) ggX9_priceOf_X9_hasFormat
set_option maxRecDepth 100000 in
theorem ggX10_init_J0_length_8abf5 : GoodIn wsX10_init wsJ0_length_8abf5 := goodIn_r _ [12, 13, 14, 15, 16, 11, 17, 18, 19] rfl (by decide +kernel)
set_option maxRecDepth 100000 in
theorem gX10_init_J0_length_8abf5 : GoodIn wsX10_init (wsV RX10 21 RJ0 yJ0_length_8abf5 wsJ0_length_8abf5) := goodIn_app (goodIn_of _ (by decide +kernel)) ggX10_init_J0_length_8abf5
set_option maxRecDepth 100000 in
theorem ggX10_init_J0_charAt_5068e : GoodIn wsX10_init wsJ0_charAt_5068e := goodIn_r _ [23, 13, 24, 25, 26, 11, 27, 18, 19, 28, 29, 30, 31, 32, 33, 34, 35, 36, 37, 38, 39, 40, 41, 42, 43, 44, 45, 46, 47, 48, 49, 50, 51, 52, 53, 54, 55, 56] rfl (by decide +kernel)
set_option maxRecDepth 100000 in
theorem gX10_init_J0_charAt_5068e : GoodIn wsX10_init (wsV RX10 27 RJ0 yJ0_charAt_5068e wsJ0_charAt_5068e) := goodIn_app (goodIn_of _ (by decide +kernel)) ggX10_init_J0_charAt_5068e
set_option maxRecDepth 100000 in
theorem ggX10_open_X10_advance : GoodIn wsX10_open wsX10_advance := goodIn_r _ [16, 10, 11, 9, 1, 17, 18, 19, 20, 21, 15, 22, 23, 24, 25, 26, 27, 28, 29, 30, 31, 32, 33, 34, 35, 36, 37, 38, 39] rfl (by decide +kernel)
set_option maxRecDepth 100000 in
theorem gX10_open_X10_advance : GoodIn wsX10_open (wsV RX10 49 RX10 yX10_advance wsX10_advance) := goodIn_app (goodIn_of _ (by decide +kernel)) ggX10_open_X10_advance
set_option maxRecDepth 100000 in
theorem ggX10_advance_X10_kindOf : GoodIn wsX10_advance wsX10_kindOf := goodIn_r _ [11] rfl (by decide +kernel)
set_option maxRecDepth 100000 in
theorem gX10_advance_X10_kindOf : GoodIn wsX10_advance (va_wsS RX10 52 yX10_kindOf wsX10_kindOf) := goodIn_app (goodIn_of _ (by decide +kernel)) ggX10_advance_X10_kindOf
set_option maxRecDepth 100000 in
theorem ggX10_advance_X10_addByte : GoodIn wsX10_advance wsX10_addByte := goodIn_r _ [15, 2, 6, 21, 22, 23, 24, 25, 26, 27, 28] rfl (by decide +kernel)
set_option maxRecDepth 100000 in
theorem gX10_advance_X10_addByte : GoodIn wsX10_advance (wsV RX10 62 RX10 yX10_addByte wsX10_addByte) := goodIn_app (goodIn_of _ (by decide +kernel)) ggX10_advance_X10_addByte
set_option maxRecDepth 100000 in
theorem ggX10_advance_X10_findOwn : GoodIn wsX10_advance wsX10_findOwn := goodIn_r _ [19, 20, 21, 22, 23, 24, 25, 26, 27, 28] rfl (by decide +kernel)
set_option maxRecDepth 100000 in
theorem gX10_advance_X10_findOwn : GoodIn wsX10_advance (wsV RX10 66 RX10 yX10_findOwn wsX10_findOwn) := goodIn_app (goodIn_of _ (by decide +kernel)) ggX10_advance_X10_findOwn
set_option maxRecDepth 100000 in
theorem ggX11_init_X5_init : GoodIn wsX11_init wsX5_init := goodIn_r _ [46, 47, 2, 3, 48, 49, 50, 51, 52, 53, 54, 55, 56, 6, 57, 4, 58, 59, 60, 61, 62, 63, 64, 65, 66, 67, 68, 69, 70, 71, 72, 73, 74, 75, 76, 77, 78, 79, 80, 81, 82, 83, 84, 85, 86, 87, 88, 89, 90, 91, 92, 93, 94, 95, 96, 97, 98, 99, 100, 101, 102, 103, 104, 105, 106, 107, 267, 268, 269, 270, 271, 272, 273, 274, 211, 212, 213, 214] rfl (by decide +kernel)
set_option maxRecDepth 100000 in
theorem gX11_init_X5_init_n19 : GoodIn wsX11_init (wsX5_init) := ggX11_init_X5_init
set_option maxRecDepth 100000 in
theorem ggX11_init_X9_init : GoodIn wsX11_init wsX9_init := goodIn_r _ [109, 110, 2, 3, 6, 111, 112, 113, 114, 115, 116, 117, 118, 119, 120, 121, 122, 123, 25, 26, 124, 125, 126, 127, 128, 129, 130, 131, 132, 133, 134, 135, 136, 137, 138, 139, 140, 141, 142, 143, 144, 145, 146, 147, 148, 149, 215, 216, 217, 218, 219, 220, 221, 222, 223, 275, 276, 277, 278, 279, 280, 281, 282, 283, 284, 285, 286, 287, 288, 289, 290, 227, 228, 229] rfl (by decide +kernel)
set_option maxRecDepth 100000 in
theorem gX11_init_X9_init_n26 : GoodIn wsX11_init (wsX9_init) := ggX11_init_X9_init
set_option maxRecDepth 100000 in
theorem ggX11_init_X7_init : GoodIn wsX11_init wsX7_init := goodIn_r _ [151, 152, 2, 3, 145, 153, 224, 225, 226] rfl (by decide +kernel)
set_option maxRecDepth 100000 in
theorem gX11_init_X7_init_n42 : GoodIn wsX11_init (wsX7_init) := ggX11_init_X7_init
set_option maxRecDepth 100000 in
theorem ggX11_init_X6_init : GoodIn wsX11_init wsX6_init := goodIn_r _ [143, 144, 2, 3, 145, 146, 147, 148, 149, 227, 228, 229] rfl (by decide +kernel)
set_option maxRecDepth 100000 in
theorem gX11_init_X6_init_n52 : GoodIn wsX11_init (wsX6_init) := ggX11_init_X6_init
set_option maxRecDepth 100000 in
theorem ggX11_init_X1_init : GoodIn wsX11_init wsX1_init := goodIn_r _ [155, 156, 2, 3, 157, 20, 21, 158, 6, 159, 160, 161, 162, 163, 164, 165, 166, 150, 151, 152, 145, 153, 224, 225, 226, 230, 231, 232, 233, 234, 235, 236, 237, 238, 239, 240, 241, 242, 243] rfl (by decide +kernel)
set_option maxRecDepth 100000 in
theorem gX11_init_X1_init_n59 : GoodIn wsX11_init (wsX1_init) := ggX11_init_X1_init
set_option maxRecDepth 100000 in
theorem ggX11_init_X3_init : GoodIn wsX11_init wsX3_init := goodIn_r _ [168, 169, 2, 3, 170, 20, 21, 171, 6, 172, 148, 173, 174, 175, 176, 177, 178, 179, 150, 151, 152, 145, 153, 224, 225, 226, 244, 245, 246, 247, 248, 249, 250, 251, 252, 253, 254, 255, 256, 257, 258, 259] rfl (by decide +kernel)
set_option maxRecDepth 100000 in
theorem gX11_init_X3_init_n66 : GoodIn wsX11_init (wsX3_init) := ggX11_init_X3_init
set_option maxRecDepth 100000 in
theorem ggX11_init_X0_init : GoodIn wsX11_init wsX0_init := goodIn_r _ [181, 182, 2, 3, 183, 25, 26, 184, 185, 20, 21, 186, 6, 187, 188, 189, 142, 143, 144, 145, 146, 147, 148, 149, 150, 151, 152, 153, 227, 228, 229, 260, 261, 262, 263, 264, 224, 225, 226] rfl (by decide +kernel)
set_option maxRecDepth 100000 in
theorem gX11_init_X0_init_n73 : GoodIn wsX11_init (wsX0_init) := ggX11_init_X0_init
set_option maxRecDepth 100000 in
theorem ggX11_init_X8_init : GoodIn wsX11_init wsX8_init := goodIn_r _ [191, 192, 2, 3, 145, 193, 194, 265, 266] rfl (by decide +kernel)
set_option maxRecDepth 100000 in
theorem gX11_init_X8_init_n80 : GoodIn wsX11_init (wsX8_init) := ggX11_init_X8_init
set_option maxRecDepth 100000 in
theorem ggX11_feed_X11_refuse : GoodIn wsX11_feed wsX11_refuse := goodIn_r _ [6, 7, 13, 14, 15, 16, 17, 18, 19, 20, 21, 22, 23, 24, 25, 26, 27, 28] rfl (by decide +kernel)
set_option maxRecDepth 100000 in
theorem gX11_feed_X11_refuse : GoodIn wsX11_feed (wsV RX11 92 RX11 yX11_refuse wsX11_refuse) := goodIn_app (goodIn_of _ (by decide +kernel)) ggX11_feed_X11_refuse
set_option maxRecDepth 100000 in
theorem ggX11_feed_X11_putBytes : GoodIn wsX11_feed wsX11_putBytes := goodIn_r _ [11, 1, 12, 13, 14, 15, 16, 17, 18, 19, 20, 21, 22, 23, 24, 25, 26, 27, 28] rfl (by decide +kernel)
set_option maxRecDepth 100000 in
theorem gX11_feed_X11_putBytes : GoodIn wsX11_feed (wsV RX11 96 RX11 yX11_putBytes wsX11_putBytes) := goodIn_app (goodIn_of _ (by decide +kernel)) ggX11_feed_X11_putBytes
set_option maxRecDepth 100000 in
theorem ggX11_end_X11_refuse : GoodIn wsX11_end wsX11_refuse := goodIn_r _ [6, 7, 8, 9, 10, 11, 12, 13, 14, 15, 16, 17, 18, 19, 20, 21, 22, 23] rfl (by decide +kernel)
set_option maxRecDepth 100000 in
theorem gX11_end_X11_refuse : GoodIn wsX11_end (wsV RX11 92 RX11 yX11_refuse wsX11_refuse) := goodIn_app (goodIn_of _ (by decide +kernel)) ggX11_end_X11_refuse
set_option maxRecDepth 100000 in
theorem ggX11_task_X5_read : GoodIn wsX11_task wsX5_read := goodIn_r _ [17, 18, 19, 20, 21, 22, 23, 24, 25, 26, 27, 28, 29, 30, 31, 32, 33, 34, 35, 36, 37, 38, 39, 40, 41, 42, 43, 44, 45, 46, 47, 48, 49, 50, 51, 52, 53, 54, 55, 56, 57, 58, 59, 60, 61, 62, 63, 64, 65, 66, 67, 68, 69, 70, 71, 72, 16, 73, 74, 75, 76, 77, 78, 79, 80, 81, 82, 83, 84, 85, 86, 87, 88, 89, 90, 91, 92, 93, 94, 95, 96, 97, 98, 99, 100, 101, 102, 103, 104, 105, 106, 107, 108, 109, 110, 111, 112, 113, 114, 115, 116, 117, 118, 119, 120, 121, 122, 123, 124, 125, 126, 127, 128, 129, 130, 131, 132, 133, 134, 135, 136, 137, 138, 139, 140, 141, 142, 143, 144, 145, 146, 147, 148, 149, 150, 151, 152, 153, 154, 155, 156, 157, 158, 159, 160, 161, 162, 163, 164, 165, 166, 167, 168, 169, 170, 171, 172, 173, 174, 175, 176, 177, 178, 179, 180, 181, 182, 183, 184, 185, 186, 187, 188, 189, 190, 191, 192, 193, 194, 195, 196, 197, 198, 199, 200, 201, 202, 203, 204, 205, 206, 207, 208, 209, 210, 211, 212, 213, 214, 382, 383, 384, 385, 386, 387, 388, 389, 390, 391, 392, 393, 363, 364, 365, 366, 367, 368, 369, 370, 371, 372, 373, 374, 375, 376, 377, 378, 379, 380, 381] rfl (by decide +kernel)
set_option maxRecDepth 100000 in
theorem gX11_task_X5_read : GoodIn wsX11_task (wsV RX11 100 RX5 yX5_read wsX5_read) := goodIn_app (goodIn_of _ (by decide +kernel)) ggX11_task_X5_read
set_option maxRecDepth 100000 in
theorem ggX11_task_X11_refuse : GoodIn wsX11_task wsX11_refuse := goodIn_r _ [219, 220, 347, 348, 349, 350, 351, 352, 353, 354, 355, 356, 357, 358, 359, 360, 361, 362] rfl (by decide +kernel)
set_option maxRecDepth 100000 in
theorem gX11_task_X11_refuse : GoodIn wsX11_task (wsV RX11 92 RX11 yX11_refuse wsX11_refuse) := goodIn_app (goodIn_of _ (by decide +kernel)) ggX11_task_X11_refuse
set_option maxRecDepth 100000 in
theorem ggX11_task_X9_settle : GoodIn wsX11_task wsX9_settle := goodIn_r _ [224, 225, 32, 226, 227, 228, 229, 230, 231, 232, 233, 234, 235, 236, 237, 238, 239, 240, 241, 242, 243, 244, 245, 246, 247, 248, 249, 250, 251, 252, 253, 254, 255, 256, 257, 258, 259, 260, 261, 262, 263, 264, 265, 43, 266, 267, 268, 269, 270, 271, 272, 273, 111, 274, 113, 153, 275, 276, 277, 278, 154, 279, 280, 281, 282, 283, 218, 284, 285, 286, 287, 288, 289, 290, 291, 292, 293, 294, 295, 296, 297, 298, 299, 300, 301, 302, 303, 304, 305, 306, 307, 308, 309, 310, 311, 312, 313, 314, 315, 316, 317, 318, 319, 320, 321, 322, 363, 364, 365, 366, 367, 368, 369, 370, 371, 394, 395, 396, 397, 398, 399, 372, 373, 374, 375, 376, 377, 378, 379, 380, 381, 400, 401, 402] rfl (by decide +kernel)
set_option maxRecDepth 100000 in
theorem gX11_task_X9_settle : GoodIn wsX11_task (wsV RX11 104 RX9 yX9_settle wsX9_settle) := goodIn_app (goodIn_of _ (by decide +kernel)) ggX11_task_X9_settle
set_option maxRecDepth 100000 in
theorem ggX11_task_X2_fillFree : GoodIn wsX11_task wsX2_fillFree := goodIn_r _ [326, 232, 237, 394, 395, 396, 397, 398, 399] rfl (by decide +kernel)
set_option maxRecDepth 100000 in
theorem gX11_task_X2_fillFree : GoodIn wsX11_task (wsV RX11 111 RX2 yX2_fillFree wsX2_fillFree) := goodIn_app (goodIn_of _ (by decide +kernel)) ggX11_task_X2_fillFree
set_option maxRecDepth 100000 in
theorem ggX11_task_X1_forget : GoodIn wsX11_task wsX1_forget := goodIn_r _ [331, 332, 333, 403, 404, 405, 406, 407, 408, 409, 410, 411, 412, 413, 414, 415, 416] rfl (by decide +kernel)
set_option maxRecDepth 100000 in
theorem gX11_task_X1_forget : GoodIn wsX11_task (wsV RX11 117 RX1 yX1_forget wsX1_forget) := goodIn_app (goodIn_of _ (by decide +kernel)) ggX11_task_X1_forget
set_option maxRecDepth 100000 in
theorem ggX11_task_X3_forget : GoodIn wsX11_task wsX3_forget := goodIn_r _ [338, 339, 417, 418, 419, 420, 421, 422, 423, 424, 425, 426, 427, 428, 429, 430, 431, 432] rfl (by decide +kernel)
set_option maxRecDepth 100000 in
theorem gX11_task_X3_forget : GoodIn wsX11_task (wsV RX11 120 RX3 yX3_forget wsX3_forget) := goodIn_app (goodIn_of _ (by decide +kernel)) ggX11_task_X3_forget
set_option maxRecDepth 100000 in
theorem ggX11_task_X0_forget : GoodIn wsX11_task wsX0_forget := goodIn_r _ [344, 345, 346, 433, 434, 435, 436, 437] rfl (by decide +kernel)
set_option maxRecDepth 100000 in
theorem gX11_task_X0_forget : GoodIn wsX11_task (wsV RX11 121 RX0 yX0_forget wsX0_forget) := goodIn_app (goodIn_of _ (by decide +kernel)) ggX11_task_X0_forget
set_option maxRecDepth 100000 in
theorem ggX11_has_X4_countAnswers : GoodIn wsX11_has wsX4_countAnswers := goodIn_r _ [15, 16, 17, 43, 44, 45, 46, 47, 48, 49, 50, 51, 52] rfl (by decide +kernel)
set_option maxRecDepth 100000 in
theorem gX11_has_X4_countAnswers : GoodIn wsX11_has (wsV RX11 143 RX4 yX4_countAnswers wsX4_countAnswers) := goodIn_app (goodIn_of _ (by decide +kernel)) ggX11_has_X4_countAnswers
set_option maxRecDepth 100000 in
theorem ggX11_letter_X9_hasFormat : GoodIn wsX11_letter wsX9_hasFormat := goodIn_r _ [9, 10, 37, 38, 39, 40, 41, 42, 43, 44, 45] rfl (by decide +kernel)
set_option maxRecDepth 100000 in
theorem gX11_letter_X9_hasFormat : GoodIn wsX11_letter (wsV RX11 153 RX9 yX9_hasFormat wsX9_hasFormat) := goodIn_app (goodIn_of _ (by decide +kernel)) ggX11_letter_X9_hasFormat
set_option maxRecDepth 100000 in
theorem ggX11_letter_X9_hasNumber : GoodIn wsX11_letter wsX9_hasNumber := goodIn_r _ [14, 15, 16, 37, 38, 39, 40, 41, 42, 43, 44, 45, 46, 47, 48, 49, 50, 51, 52, 53, 54, 55] rfl (by decide +kernel)
set_option maxRecDepth 100000 in
theorem gX11_letter_X9_hasNumber : GoodIn wsX11_letter (wsV RX11 157 RX9 yX9_hasNumber wsX9_hasNumber) := goodIn_app (goodIn_of _ (by decide +kernel)) ggX11_letter_X9_hasNumber
set_option maxRecDepth 100000 in
theorem ggX11_letter_X11_letterOf : GoodIn wsX11_letter wsX11_letterOf := goodIn_r _ [20] rfl (by decide +kernel)
set_option maxRecDepth 100000 in
theorem gX11_letter_X11_letterOf : GoodIn wsX11_letter (va_wsS RX11 166 yX11_letterOf wsX11_letterOf) := goodIn_app (goodIn_of _ (by decide +kernel)) ggX11_letter_X11_letterOf
set_option maxRecDepth 100000 in
theorem ggX11_format_X9_hasFormat : GoodIn wsX11_format wsX9_hasFormat := goodIn_r _ [9, 10, 27, 28, 29, 30, 31, 32, 33, 34, 35] rfl (by decide +kernel)
set_option maxRecDepth 100000 in
theorem gX11_format_X9_hasFormat : GoodIn wsX11_format (wsV RX11 153 RX9 yX9_hasFormat wsX9_hasFormat) := goodIn_app (goodIn_of _ (by decide +kernel)) ggX11_format_X9_hasFormat
set_option maxRecDepth 100000 in
theorem ggX11_number_X9_hasNumber : GoodIn wsX11_number wsX9_hasNumber := goodIn_r _ [12, 13, 14, 38, 39, 40, 41, 42, 43, 44, 45, 46, 47, 48, 49, 50, 51, 52, 53, 54, 55, 56] rfl (by decide +kernel)
set_option maxRecDepth 100000 in
theorem gX11_number_X9_hasNumber : GoodIn wsX11_number (wsV RX11 157 RX9 yX9_hasNumber wsX9_hasNumber) := goodIn_app (goodIn_of _ (by decide +kernel)) ggX11_number_X9_hasNumber
set_option maxRecDepth 100000 in
theorem ggX11_number_X4_madeOf : GoodIn wsX11_number wsX4_madeOf := goodIn_r _ [19, 20, 21, 47, 48, 49, 50, 51, 52, 53, 54, 55, 56] rfl (by decide +kernel)
set_option maxRecDepth 100000 in
theorem gX11_number_X4_madeOf : GoodIn wsX11_number (wsV RX11 182 RX4 yX4_madeOf wsX4_madeOf) := goodIn_app (goodIn_of _ (by decide +kernel)) ggX11_number_X4_madeOf
set_option maxRecDepth 100000 in
theorem ggX11_told_X9_hasNumber : GoodIn wsX11_told wsX9_hasNumber := goodIn_r _ [8, 9, 10, 39, 40, 41, 42, 43, 44, 45, 46, 47, 48, 49, 50, 51, 52, 53, 54, 55, 56, 57] rfl (by decide +kernel)
set_option maxRecDepth 100000 in
theorem gX11_told_X9_hasNumber : GoodIn wsX11_told (wsV RX11 157 RX9 yX9_hasNumber wsX9_hasNumber) := goodIn_app (goodIn_of _ (by decide +kernel)) ggX11_told_X9_hasNumber
set_option maxRecDepth 100000 in
theorem ggX11_told_X4_madeOf : GoodIn wsX11_told wsX4_madeOf := goodIn_r _ [15, 16, 17, 48, 49, 50, 51, 52, 53, 54, 55, 56, 57] rfl (by decide +kernel)
set_option maxRecDepth 100000 in
theorem gX11_told_X4_madeOf : GoodIn wsX11_told (wsV RX11 182 RX4 yX4_madeOf wsX4_madeOf) := goodIn_app (goodIn_of _ (by decide +kernel)) ggX11_told_X4_madeOf
set_option maxRecDepth 100000 in
theorem ggX11_told_X4_amountOf : GoodIn wsX11_told wsX4_amountOf := goodIn_r _ [21, 16, 22, 48, 49, 50, 51, 52, 53, 54, 55, 56, 57] rfl (by decide +kernel)
set_option maxRecDepth 100000 in
theorem gX11_told_X4_amountOf : GoodIn wsX11_told (wsV RX11 196 RX4 yX4_amountOf wsX4_amountOf) := goodIn_app (goodIn_of _ (by decide +kernel)) ggX11_told_X4_amountOf
set_option maxRecDepth 100000 in
theorem ggX11_range_X9_hasNumber : GoodIn wsX11_range wsX9_hasNumber := goodIn_r _ [11, 12, 13, 30, 31, 32, 33, 34, 35, 36, 37, 38, 42, 43, 44, 45, 46, 47, 48, 49, 50, 51] rfl (by decide +kernel)
set_option maxRecDepth 100000 in
theorem gX11_range_X9_hasNumber : GoodIn wsX11_range (wsV RX11 157 RX9 yX9_hasNumber wsX9_hasNumber) := goodIn_app (goodIn_of _ (by decide +kernel)) ggX11_range_X9_hasNumber
set_option maxRecDepth 100000 in
theorem ggX11_uses_X9_hasNumber : GoodIn wsX11_uses wsX9_hasNumber := goodIn_r _ [7, 8, 9, 40, 41, 42, 43, 44, 45, 46, 47, 48, 49, 50, 51, 52, 53, 54, 55, 56, 57, 58] rfl (by decide +kernel)
set_option maxRecDepth 100000 in
theorem gX11_uses_X9_hasNumber : GoodIn wsX11_uses (wsV RX11 157 RX9 yX9_hasNumber wsX9_hasNumber) := goodIn_app (goodIn_of _ (by decide +kernel)) ggX11_uses_X9_hasNumber
set_option maxRecDepth 100000 in
theorem ggX11_uses_X4_madeFrom : GoodIn wsX11_uses wsX4_madeFrom := goodIn_r _ [14, 15, 16, 17, 18, 13, 19, 20, 21, 22, 23, 49, 50, 51, 52, 53, 54, 55, 56, 57, 58] rfl (by decide +kernel)
set_option maxRecDepth 100000 in
theorem gX11_uses_X4_madeFrom : GoodIn wsX11_uses (wsV RX11 214 RX4 yX4_madeFrom wsX4_madeFrom) := goodIn_app (goodIn_of _ (by decide +kernel)) ggX11_uses_X4_madeFrom
set_option maxRecDepth 100000 in
theorem ggX11_depth_X9_hasNumber : GoodIn wsX11_depth wsX9_hasNumber := goodIn_r _ [8, 9, 10, 27, 28, 29, 30, 31, 32, 33, 34, 35, 36, 37, 38, 39, 40, 41, 42, 43, 44, 45] rfl (by decide +kernel)
set_option maxRecDepth 100000 in
theorem gX11_depth_X9_hasNumber : GoodIn wsX11_depth (wsV RX11 157 RX9 yX9_hasNumber wsX9_hasNumber) := goodIn_app (goodIn_of _ (by decide +kernel)) ggX11_depth_X9_hasNumber
set_option maxRecDepth 100000 in
theorem ggX11_chosen_X9_hasChoice : GoodIn wsX11_chosen wsX9_hasChoice := goodIn_r _ [7, 8, 9, 10, 11, 37, 38, 39, 40, 41, 42, 43, 44, 45, 46, 47, 48, 49, 50, 51, 52, 53, 54, 55, 56, 57, 58, 59, 60, 61] rfl (by decide +kernel)
set_option maxRecDepth 100000 in
theorem gX11_chosen_X9_hasChoice : GoodIn wsX11_chosen (wsV RX11 220 RX9 yX9_hasChoice wsX9_hasChoice) := goodIn_app (goodIn_of _ (by decide +kernel)) ggX11_chosen_X9_hasChoice
set_option maxRecDepth 100000 in
theorem ggX11_chosen_X9_hasNumber : GoodIn wsX11_chosen wsX9_hasNumber := goodIn_r _ [15, 8, 9, 37, 38, 39, 40, 41, 42, 43, 44, 45, 46, 47, 48, 49, 50, 51, 52, 53, 54, 55] rfl (by decide +kernel)
set_option maxRecDepth 100000 in
theorem gX11_chosen_X9_hasNumber : GoodIn wsX11_chosen (wsV RX11 157 RX9 yX9_hasNumber wsX9_hasNumber) := goodIn_app (goodIn_of _ (by decide +kernel)) ggX11_chosen_X9_hasNumber
set_option maxRecDepth 100000 in
theorem ggX11_chosen_X9_formatOf : GoodIn wsX11_chosen wsX9_formatOf := goodIn_r _ [19, 8, 9, 10, 20, 37, 38, 39, 40, 41, 42, 43, 44, 45, 46, 47, 48, 49, 50, 51, 52, 53, 54, 55, 56, 57, 58, 59, 60, 61] rfl (by decide +kernel)
set_option maxRecDepth 100000 in
theorem gX11_chosen_X9_formatOf : GoodIn wsX11_chosen (wsV RX11 224 RX9 yX9_formatOf wsX9_formatOf) := goodIn_app (goodIn_of _ (by decide +kernel)) ggX11_chosen_X9_formatOf
set_option maxRecDepth 100000 in
theorem ggX11_choose_X9_hasChoice : GoodIn wsX11_choose wsX9_hasChoice := goodIn_r _ [9, 10, 11, 12, 13, 57, 58, 59, 60, 61, 62, 63, 64, 65, 72, 73, 74, 75, 76, 77, 78, 79, 80, 81, 66, 67, 68, 69, 70, 71] rfl (by decide +kernel)
set_option maxRecDepth 100000 in
theorem gX11_choose_X9_hasChoice : GoodIn wsX11_choose (wsV RX11 220 RX9 yX9_hasChoice wsX9_hasChoice) := goodIn_app (goodIn_of _ (by decide +kernel)) ggX11_choose_X9_hasChoice
set_option maxRecDepth 100000 in
theorem ggX11_choose_X9_hasFormat : GoodIn wsX11_choose wsX9_hasFormat := goodIn_r _ [17, 18, 57, 58, 59, 60, 61, 62, 63, 64, 65] rfl (by decide +kernel)
set_option maxRecDepth 100000 in
theorem gX11_choose_X9_hasFormat : GoodIn wsX11_choose (wsV RX11 153 RX9 yX9_hasFormat wsX9_hasFormat) := goodIn_app (goodIn_of _ (by decide +kernel)) ggX11_choose_X9_hasFormat
set_option maxRecDepth 100000 in
theorem ggX11_choose_X9_isFree : GoodIn wsX11_choose wsX9_isFree := goodIn_r _ [22, 12, 23, 24, 25, 26, 8, 27, 10, 11, 28, 29, 30, 31, 32, 33, 34, 57, 58, 59, 60, 61, 62, 63, 64, 65, 66, 67, 68, 69, 70, 71, 72, 73, 74, 75, 76, 77, 78, 79, 80, 81] rfl (by decide +kernel)
set_option maxRecDepth 100000 in
theorem gX11_choose_X9_isFree : GoodIn wsX11_choose (wsV RX11 228 RX9 yX9_isFree wsX9_isFree) := goodIn_app (goodIn_of _ (by decide +kernel)) ggX11_choose_X9_isFree
set_option maxRecDepth 100000 in
theorem ggX11_choose_X11_refuse : GoodIn wsX11_choose wsX11_refuse := goodIn_r _ [39, 40, 41, 42, 43, 44, 45, 46, 47, 48, 49, 50, 51, 52, 53, 54, 55, 56] rfl (by decide +kernel)
set_option maxRecDepth 100000 in
theorem gX11_choose_X11_refuse : GoodIn wsX11_choose (wsV RX11 92 RX11 yX11_refuse wsX11_refuse) := goodIn_app (goodIn_of _ (by decide +kernel)) ggX11_choose_X11_refuse
set_option maxRecDepth 100000 in
theorem ggX11_cost_X9_hasChoice : GoodIn wsX11_cost wsX9_hasChoice := goodIn_r _ [7, 8, 9, 10, 11, 55, 56, 57, 58, 59, 60, 61, 62, 63, 64, 65, 66, 67, 68, 69, 70, 71, 72, 73, 74, 75, 76, 77, 78, 79] rfl (by decide +kernel)
set_option maxRecDepth 100000 in
theorem gX11_cost_X9_hasChoice : GoodIn wsX11_cost (wsV RX11 220 RX9 yX9_hasChoice wsX9_hasChoice) := goodIn_app (goodIn_of _ (by decide +kernel)) ggX11_cost_X9_hasChoice
set_option maxRecDepth 100000 in
theorem ggX11_cost_X9_priceOf : GoodIn wsX11_cost wsX9_priceOf := goodIn_r _ [15, 16, 8, 9, 17, 18, 19, 20, 6, 21, 22, 23, 24, 25, 26, 27, 28, 29, 30, 31, 32, 10, 33, 34, 35, 36, 37, 38, 55, 56, 57, 58, 59, 60, 61, 62, 63, 64, 65, 66, 67, 68, 69, 70, 71, 72, 73, 74, 75, 76, 77, 78, 79] rfl (by decide +kernel)
set_option maxRecDepth 100000 in
theorem gX11_cost_X9_priceOf : GoodIn wsX11_cost (wsV RX11 231 RX9 yX9_priceOf wsX9_priceOf) := goodIn_app (goodIn_of _ (by decide +kernel)) ggX11_cost_X9_priceOf
set_option maxRecDepth 100000 in
theorem ggX11_casts_X9_hasChoice : GoodIn wsX11_casts wsX9_hasChoice := goodIn_r _ [7, 8, 9, 10, 11, 44, 45, 46, 47, 48, 49, 50, 51, 52, 53, 54, 55, 56, 57, 58, 59, 60, 61, 62, 63, 64, 65, 66, 67, 68] rfl (by decide +kernel)
set_option maxRecDepth 100000 in
theorem gX11_casts_X9_hasChoice : GoodIn wsX11_casts (wsV RX11 220 RX9 yX9_hasChoice wsX9_hasChoice) := goodIn_app (goodIn_of _ (by decide +kernel)) ggX11_casts_X9_hasChoice
set_option maxRecDepth 100000 in
theorem ggX11_casts_X9_castsOf : GoodIn wsX11_casts wsX9_castsOf := goodIn_r _ [15, 8, 9, 16, 17, 18, 19, 20, 21, 22, 23, 24, 25, 6, 26, 10, 27, 44, 45, 46, 47, 48, 49, 50, 51, 52, 53, 54, 55, 56, 57, 58, 59, 60, 61, 62, 63, 64, 65, 66, 67, 68] rfl (by decide +kernel)
set_option maxRecDepth 100000 in
theorem gX11_casts_X9_castsOf : GoodIn wsX11_casts (wsV RX11 235 RX9 yX9_castsOf wsX9_castsOf) := goodIn_app (goodIn_of _ (by decide +kernel)) ggX11_casts_X9_castsOf
set_option maxRecDepth 100000 in
theorem ggX11_fails_X9_hasChoice : GoodIn wsX11_fails wsX9_hasChoice := goodIn_r _ [10, 11, 12, 13, 14, 114, 115, 116, 117, 118, 119, 120, 121, 122, 126, 127, 128, 129, 130, 131, 132, 133, 134, 135, 136, 137, 138, 139, 140, 141] rfl (by decide +kernel)
set_option maxRecDepth 100000 in
theorem gX11_fails_X9_hasChoice : GoodIn wsX11_fails (wsV RX11 220 RX9 yX9_hasChoice wsX9_hasChoice) := goodIn_app (goodIn_of _ (by decide +kernel)) ggX11_fails_X9_hasChoice
set_option maxRecDepth 100000 in
theorem ggX11_fails_X7_reckon : GoodIn wsX11_fails wsX7_reckon := goodIn_r _ [19, 20, 21, 22, 23, 24, 25, 26, 27, 28, 18, 29, 30, 31, 32, 33, 34, 35, 36, 37, 38, 39, 9, 40, 11, 12, 13, 41, 42, 43, 44, 45, 46, 47, 48, 49, 50, 51, 52, 53, 54, 55, 56, 57, 58, 59, 60, 61, 62, 63, 64, 65, 66, 67, 68, 69, 70, 71, 72, 73, 74, 75, 76, 77, 78, 79, 80, 81, 82, 83, 84, 85, 86, 87, 88, 89, 90, 91, 92, 93, 94, 95, 96, 97, 123, 124, 125, 114, 115, 116, 117, 118, 119, 120, 121, 122, 126, 127, 128, 129, 130, 131, 132, 133, 134, 135, 136, 137, 138, 139, 140, 141, 142, 143, 144] rfl (by decide +kernel)
set_option maxRecDepth 100000 in
theorem gX11_fails_X7_reckon : GoodIn wsX11_fails (wsV RX11 238 RX7 yX7_reckon wsX7_reckon) := goodIn_app (goodIn_of _ (by decide +kernel)) ggX11_fails_X7_reckon
set_option maxRecDepth 100000 in
theorem ggX11_why_X9_hasChoice : GoodIn wsX11_why wsX9_hasChoice := goodIn_r _ [10, 11, 12, 13, 14, 114, 115, 116, 117, 118, 119, 120, 121, 122, 126, 127, 128, 129, 130, 131, 132, 133, 134, 135, 136, 137, 138, 139, 140, 141] rfl (by decide +kernel)
set_option maxRecDepth 100000 in
theorem gX11_why_X9_hasChoice : GoodIn wsX11_why (wsV RX11 220 RX9 yX9_hasChoice wsX9_hasChoice) := goodIn_app (goodIn_of _ (by decide +kernel)) ggX11_why_X9_hasChoice
set_option maxRecDepth 100000 in
theorem ggX11_why_X7_reckon : GoodIn wsX11_why wsX7_reckon := goodIn_r _ [19, 20, 21, 22, 23, 24, 25, 26, 27, 28, 18, 29, 30, 31, 32, 33, 34, 35, 36, 37, 38, 39, 9, 40, 11, 12, 13, 41, 42, 43, 44, 45, 46, 47, 48, 49, 50, 51, 52, 53, 54, 55, 56, 57, 58, 59, 60, 61, 62, 63, 64, 65, 66, 67, 68, 69, 70, 71, 72, 73, 74, 75, 76, 77, 78, 79, 80, 81, 82, 83, 84, 85, 86, 87, 88, 89, 90, 91, 92, 93, 94, 95, 96, 97, 123, 124, 125, 114, 115, 116, 117, 118, 119, 120, 121, 122, 126, 127, 128, 129, 130, 131, 132, 133, 134, 135, 136, 137, 138, 139, 140, 141, 142, 143, 144] rfl (by decide +kernel)
set_option maxRecDepth 100000 in
theorem gX11_why_X7_reckon : GoodIn wsX11_why (wsV RX11 238 RX7 yX7_reckon wsX7_reckon) := goodIn_app (goodIn_of _ (by decide +kernel)) ggX11_why_X7_reckon
set_option maxRecDepth 100000 in
theorem ggX11_error_X9_hasChoice : GoodIn wsX11_error wsX9_hasChoice := goodIn_r _ [12, 13, 14, 15, 16, 117, 118, 119, 120, 121, 122, 123, 124, 125, 129, 130, 131, 132, 133, 134, 135, 136, 137, 138, 139, 140, 141, 142, 143, 144] rfl (by decide +kernel)
set_option maxRecDepth 100000 in
theorem gX11_error_X9_hasChoice : GoodIn wsX11_error (wsV RX11 220 RX9 yX9_hasChoice wsX9_hasChoice) := goodIn_app (goodIn_of _ (by decide +kernel)) ggX11_error_X9_hasChoice
set_option maxRecDepth 100000 in
theorem ggX11_error_X9_hasNumber : GoodIn wsX11_error wsX9_hasNumber := goodIn_r _ [20, 13, 14, 117, 118, 119, 120, 121, 122, 123, 124, 125, 129, 130, 131, 132, 133, 134, 135, 136, 137, 138] rfl (by decide +kernel)
set_option maxRecDepth 100000 in
theorem gX11_error_X9_hasNumber : GoodIn wsX11_error (wsV RX11 157 RX9 yX9_hasNumber wsX9_hasNumber) := goodIn_app (goodIn_of _ (by decide +kernel)) ggX11_error_X9_hasNumber
set_option maxRecDepth 100000 in
theorem ggX11_error_X7_reckon : GoodIn wsX11_error wsX7_reckon := goodIn_r _ [25, 26, 27, 28, 29, 30, 31, 32, 33, 34, 24, 35, 36, 37, 38, 39, 40, 41, 42, 43, 44, 45, 11, 46, 13, 14, 15, 47, 48, 49, 50, 51, 52, 53, 54, 55, 56, 57, 58, 59, 60, 61, 62, 63, 64, 65, 66, 67, 68, 69, 70, 71, 72, 73, 74, 75, 76, 77, 78, 79, 80, 81, 82, 83, 84, 85, 86, 87, 88, 89, 90, 91, 92, 93, 94, 95, 96, 97, 98, 99, 100, 18, 19, 20, 126, 127, 128, 117, 118, 119, 120, 121, 122, 123, 124, 125, 129, 130, 131, 132, 133, 134, 135, 136, 137, 138, 139, 140, 141, 142, 143, 144, 145, 146, 147] rfl (by decide +kernel)
set_option maxRecDepth 100000 in
theorem gX11_error_X7_reckon : GoodIn wsX11_error (wsV RX11 238 RX7 yX7_reckon wsX7_reckon) := goodIn_app (goodIn_of _ (by decide +kernel)) ggX11_error_X7_reckon
set_option maxRecDepth 100000 in
theorem ggX11_slack_X9_isAnswer : GoodIn wsX11_slack wsX9_isAnswer := goodIn_r _ [11, 12, 13, 14, 15, 16, 10, 17, 18, 122, 123, 124, 125, 126, 127, 128, 129, 130, 131, 132, 133, 134, 135, 136, 137, 138, 139, 140] rfl (by decide +kernel)
set_option maxRecDepth 100000 in
theorem gX11_slack_X9_isAnswer : GoodIn wsX11_slack (wsV RX11 251 RX9 yX9_isAnswer wsX9_isAnswer) := goodIn_app (goodIn_of _ (by decide +kernel)) ggX11_slack_X9_isAnswer
set_option maxRecDepth 100000 in
theorem ggX11_slack_X11_handPasses : GoodIn wsX11_slack wsX11_handPasses := goodIn_r _ [23, 1, 5, 24, 25, 26, 27, 28, 10, 29, 12, 18, 30, 31, 32, 33, 34, 35, 36, 37, 38, 39, 40, 41, 42, 43, 44, 45, 46, 47, 48, 49, 50, 51, 52, 53, 54, 55, 56, 57, 58, 59, 60, 61, 62, 63, 64, 65, 66, 67, 68, 69, 70, 71, 72, 73, 74, 75, 76, 77, 78, 79, 80, 81, 22, 82, 83, 84, 85, 86, 87, 88, 89, 90, 91, 92, 93, 94, 95, 96, 97, 98, 99, 100, 101, 102, 103, 104, 105, 8, 9, 11, 13, 14, 15, 16, 17, 106, 107, 108, 109, 110, 111, 112, 113, 114, 115, 116, 117, 118, 119, 120, 121, 122, 123, 124, 125, 126, 127, 128, 129, 130, 131, 132, 133, 134, 135, 136, 137, 138, 139, 140, 144, 145, 146, 147, 148, 149, 141, 142, 143, 150, 151, 152] rfl (by decide +kernel)
set_option maxRecDepth 100000 in
theorem gX11_slack_X11_handPasses : GoodIn wsX11_slack (wsV RX11 254 RX11 yX11_handPasses wsX11_handPasses) := goodIn_app (goodIn_of _ (by decide +kernel)) ggX11_slack_X11_handPasses
set_option maxRecDepth 100000 in
theorem ggX11_widest_X9_isInput : GoodIn wsX11_widest wsX9_isInput := goodIn_r _ [7, 8, 9, 10, 11, 12, 6, 13, 14, 184, 185, 186, 187, 188, 189, 190, 191, 192, 193, 194, 195, 196, 197, 198, 199, 200, 201, 202] rfl (by decide +kernel)
set_option maxRecDepth 100000 in
theorem gX11_widest_X9_isInput : GoodIn wsX11_widest (wsV RX11 257 RX9 yX9_isInput wsX9_isInput) := goodIn_app (goodIn_of _ (by decide +kernel)) ggX11_widest_X9_isInput
set_option maxRecDepth 100000 in
theorem ggX11_widest_X11_handPasses : GoodIn wsX11_widest wsX11_handPasses := goodIn_r _ [19, 1, 20, 21, 22, 23, 24, 25, 6, 26, 8, 14, 27, 28, 29, 30, 31, 32, 33, 34, 35, 36, 37, 38, 39, 40, 41, 42, 43, 44, 45, 46, 47, 48, 49, 50, 51, 52, 53, 54, 55, 56, 57, 58, 59, 60, 61, 62, 63, 64, 65, 66, 67, 68, 69, 70, 71, 72, 73, 74, 75, 76, 77, 78, 18, 79, 80, 81, 82, 83, 84, 85, 86, 87, 88, 89, 90, 91, 92, 93, 94, 95, 96, 97, 98, 99, 100, 101, 102, 103, 104, 105, 106, 10, 11, 12, 13, 168, 169, 170, 171, 172, 173, 174, 175, 176, 177, 178, 179, 180, 181, 182, 183, 184, 185, 186, 187, 188, 189, 190, 191, 192, 193, 194, 195, 196, 197, 198, 199, 200, 201, 202, 203, 204, 205, 206, 207, 208, 209, 210, 211, 212, 213, 214] rfl (by decide +kernel)
set_option maxRecDepth 100000 in
theorem gX11_widest_X11_handPasses : GoodIn wsX11_widest (wsV RX11 254 RX11 yX11_handPasses wsX11_handPasses) := goodIn_app (goodIn_of _ (by decide +kernel)) ggX11_widest_X11_handPasses
set_option maxRecDepth 100000 in
theorem ggX11_widest_X11_passesLonger : GoodIn wsX11_widest wsX11_passesLonger := goodIn_r _ [110, 111, 1, 112, 113, 22, 114, 115, 116, 83, 117, 118, 88, 89, 119, 120, 121, 122, 123, 124, 125, 126, 127, 47, 128, 129, 130, 131, 132, 91, 67, 68, 69, 70, 71, 72, 92, 74, 75, 76, 77, 133, 134, 135, 136, 137, 18, 138, 139, 140, 141, 46, 48, 142, 143, 144, 145, 146, 147, 148, 149, 150, 151, 152, 153, 90, 154, 155, 156, 157, 158, 159, 160, 161, 162, 163, 99, 100, 101, 85, 86, 87, 164, 165, 166, 167, 29, 30, 31, 32, 33, 34, 35, 36, 37, 38, 39, 40, 41, 42, 43, 44, 45, 49, 50, 51, 52, 53, 6, 54, 8, 14, 27, 55, 56, 57, 58, 59, 60, 61, 62, 63, 64, 65, 66, 73, 78, 79, 80, 81, 82, 84, 93, 94, 95, 96, 97, 98, 102, 103, 104, 105, 106, 10, 11, 12, 13, 168, 169, 170, 171, 172, 173, 174, 175, 176, 177, 178, 179, 180, 181, 182, 183, 184, 185, 186, 187, 188, 189, 190, 191, 192, 193, 194, 195, 196, 197, 198, 199, 200, 201, 202, 212, 213, 214, 209, 210, 211, 203, 204, 205, 206, 207, 208] rfl (by decide +kernel)
set_option maxRecDepth 100000 in
theorem gX11_widest_X11_passesLonger : GoodIn wsX11_widest (wsV RX11 261 RX11 yX11_passesLonger wsX11_passesLonger) := goodIn_app (goodIn_of _ (by decide +kernel)) ggX11_widest_X11_passesLonger
set_option maxRecDepth 100000 in
theorem ggX11_blame_X9_isAnswer : GoodIn wsX11_blame wsX9_isAnswer := goodIn_r _ [15, 16, 17, 18, 19, 20, 14, 21, 22, 142, 143, 144, 145, 146, 147, 148, 149, 150, 160, 161, 162, 163, 164, 165, 166, 167, 168, 169] rfl (by decide +kernel)
set_option maxRecDepth 100000 in
theorem gX11_blame_X9_isAnswer : GoodIn wsX11_blame (wsV RX11 251 RX9 yX9_isAnswer wsX9_isAnswer) := goodIn_app (goodIn_of _ (by decide +kernel)) ggX11_blame_X9_isAnswer
set_option maxRecDepth 100000 in
theorem ggX11_blame_X9_isFree : GoodIn wsX11_blame wsX9_isFree := goodIn_r _ [26, 27, 28, 18, 19, 20, 14, 21, 16, 22, 29, 30, 31, 32, 33, 34, 35, 142, 143, 144, 145, 146, 147, 148, 149, 150, 151, 152, 153, 154, 155, 156, 160, 161, 162, 163, 164, 165, 166, 167, 168, 169] rfl (by decide +kernel)
set_option maxRecDepth 100000 in
theorem gX11_blame_X9_isFree : GoodIn wsX11_blame (wsV RX11 228 RX9 yX9_isFree wsX9_isFree) := goodIn_app (goodIn_of _ (by decide +kernel)) ggX11_blame_X9_isFree
set_option maxRecDepth 100000 in
theorem ggX11_blame_X11_handPasses : GoodIn wsX11_blame wsX11_handPasses := goodIn_r _ [40, 1, 9, 8, 3, 41, 42, 43, 14, 44, 16, 22, 27, 45, 46, 47, 48, 49, 50, 51, 52, 53, 54, 55, 56, 57, 58, 59, 60, 61, 62, 63, 64, 65, 66, 67, 68, 69, 70, 71, 28, 72, 73, 74, 75, 76, 77, 78, 79, 80, 81, 82, 83, 84, 85, 86, 87, 88, 89, 90, 91, 92, 93, 94, 39, 95, 96, 97, 98, 99, 100, 101, 102, 103, 104, 105, 106, 107, 108, 109, 110, 111, 112, 113, 114, 115, 116, 117, 118, 12, 13, 15, 17, 18, 19, 20, 21, 126, 127, 128, 129, 130, 131, 132, 133, 134, 135, 136, 137, 138, 139, 140, 141, 142, 143, 144, 145, 146, 147, 148, 149, 150, 160, 161, 162, 163, 164, 165, 166, 167, 168, 169, 151, 152, 153, 154, 155, 156, 157, 158, 159, 170, 171, 172] rfl (by decide +kernel)
set_option maxRecDepth 100000 in
theorem gX11_blame_X11_handPasses : GoodIn wsX11_blame (wsV RX11 254 RX11 yX11_handPasses wsX11_handPasses) := goodIn_app (goodIn_of _ (by decide +kernel)) ggX11_blame_X11_handPasses
set_option maxRecDepth 100000 in
theorem ggX11_blame_X11_copyChoice : GoodIn wsX11_blame wsX11_copyChoice := goodIn_r _ [121] rfl (by decide +kernel)
set_option maxRecDepth 100000 in
theorem gX11_blame_X11_copyChoice : GoodIn wsX11_blame (va_wsS RX11 265 yX11_copyChoice wsX11_copyChoice) := goodIn_app (goodIn_of _ (by decide +kernel)) ggX11_blame_X11_copyChoice
set_option maxRecDepth 100000 in
theorem ggX11_blame_X9_finestFormat : GoodIn wsX11_blame wsX9_finestFormat := goodIn_r _ [125, 76, 77, 142, 143, 144, 145, 146, 147, 148, 149, 150] rfl (by decide +kernel)
set_option maxRecDepth 100000 in
theorem gX11_blame_X9_finestFormat : GoodIn wsX11_blame (wsV RX11 269 RX9 yX9_finestFormat wsX9_finestFormat) := goodIn_app (goodIn_of _ (by decide +kernel)) ggX11_blame_X9_finestFormat
set_option maxRecDepth 100000 in
theorem ggX11_blame_X7_reckon : GoodIn wsX11_blame wsX7_reckon := goodIn_r _ [50, 51, 52, 53, 54, 55, 56, 57, 58, 59, 49, 60, 61, 62, 63, 64, 65, 66, 67, 68, 69, 70, 14, 71, 16, 22, 27, 28, 72, 73, 74, 75, 76, 77, 78, 79, 80, 81, 82, 83, 84, 85, 86, 87, 88, 89, 90, 91, 92, 93, 94, 39, 95, 96, 97, 98, 99, 100, 101, 102, 103, 104, 105, 106, 107, 108, 109, 110, 111, 112, 113, 114, 115, 116, 117, 118, 12, 13, 15, 17, 18, 19, 20, 21, 157, 158, 159, 142, 143, 144, 145, 146, 147, 148, 149, 150, 160, 161, 162, 163, 164, 165, 166, 167, 168, 169, 151, 152, 153, 154, 155, 156, 170, 171, 172] rfl (by decide +kernel)
set_option maxRecDepth 100000 in
theorem gX11_blame_X7_reckon : GoodIn wsX11_blame (wsV RX11 238 RX7 yX7_reckon wsX7_reckon) := goodIn_app (goodIn_of _ (by decide +kernel)) ggX11_blame_X7_reckon
set_option maxRecDepth 100000 in
theorem ggX11_cheapest_X1_search : GoodIn wsX11_cheapest wsX1_search := goodIn_r _ [10, 11, 12, 13, 14, 15, 16, 17, 18, 19, 20, 21, 22, 23, 24, 25, 26, 27, 28, 29, 9, 30, 31, 32, 33, 34, 35, 36, 37, 38, 39, 40, 41, 42, 43, 44, 45, 46, 47, 48, 49, 50, 51, 52, 53, 54, 55, 56, 57, 58, 59, 60, 61, 62, 63, 64, 65, 66, 67, 68, 69, 70, 71, 72, 73, 74, 75, 76, 77, 78, 79, 80, 81, 82, 83, 84, 85, 86, 87, 88, 89, 90, 91, 92, 93, 94, 95, 96, 97, 98, 99, 100, 101, 102, 103, 104, 105, 106, 107, 108, 109, 110, 111, 112, 113, 114, 115, 116, 117, 118, 119, 120, 121, 122, 123, 124, 125, 126, 127, 128, 129, 130, 131, 132, 133, 134, 135, 136, 137, 138, 139, 140, 141, 142, 143, 144, 145, 146, 147, 148, 149, 150, 151, 152, 153, 154, 155, 156, 157, 158, 159, 160, 161, 195, 196, 197, 198, 199, 200, 201, 202, 203, 204, 205, 206, 207, 208, 209, 210, 211, 212, 213, 214, 215, 216, 217, 218, 219, 181, 182, 183, 184, 185, 186, 187, 188, 189, 190, 191, 192, 193, 194, 220, 221, 222, 223, 224, 225] rfl (by decide +kernel)
set_option maxRecDepth 100000 in
theorem gX11_cheapest_X1_search : GoodIn wsX11_cheapest (wsV RX11 273 RX1 yX1_search wsX1_search) := goodIn_app (goodIn_of _ (by decide +kernel)) ggX11_cheapest_X1_search
set_option maxRecDepth 100000 in
theorem ggX11_cheapest_X1_unfold : GoodIn wsX11_cheapest wsX1_unfold := goodIn_r _ [55, 13, 56, 57, 31, 195, 196, 197, 198, 199, 200, 201, 202, 203, 214, 215, 216, 217, 218, 219] rfl (by decide +kernel)
set_option maxRecDepth 100000 in
theorem gX11_cheapest_X1_unfold : GoodIn wsX11_cheapest (va_wsS RX11 283 yX1_unfold wsX1_unfold) := goodIn_app (goodIn_of _ (by decide +kernel)) ggX11_cheapest_X1_unfold
set_option maxRecDepth 100000 in
theorem ggX11_cheapest_X9_hasNumber : GoodIn wsX11_cheapest wsX9_hasNumber := goodIn_r _ [138, 23, 24, 195, 196, 197, 198, 199, 200, 201, 202, 203, 204, 205, 206, 207, 208, 209, 210, 211, 212, 213] rfl (by decide +kernel)
set_option maxRecDepth 100000 in
theorem gX11_cheapest_X9_hasNumber : GoodIn wsX11_cheapest (wsV RX11 157 RX9 yX9_hasNumber wsX9_hasNumber) := goodIn_app (goodIn_of _ (by decide +kernel)) ggX11_cheapest_X9_hasNumber
set_option maxRecDepth 100000 in
theorem ggX11_cheapest_X9_formatOf : GoodIn wsX11_cheapest wsX9_formatOf := goodIn_r _ [83, 23, 24, 25, 84, 195, 196, 197, 198, 199, 200, 201, 202, 203, 204, 205, 206, 207, 208, 209, 210, 211, 212, 213, 214, 215, 216, 217, 218, 219] rfl (by decide +kernel)
set_option maxRecDepth 100000 in
theorem gX11_cheapest_X9_formatOf : GoodIn wsX11_cheapest (wsV RX11 224 RX9 yX9_formatOf wsX9_formatOf) := goodIn_app (goodIn_of _ (by decide +kernel)) ggX11_cheapest_X9_formatOf
set_option maxRecDepth 100000 in
theorem ggX11_passing_X1_search : GoodIn wsX11_passing wsX1_search := goodIn_r _ [8, 9, 10, 11, 12, 13, 14, 15, 16, 17, 18, 19, 20, 21, 22, 23, 24, 25, 26, 27, 7, 28, 29, 30, 31, 32, 33, 34, 35, 36, 37, 38, 39, 40, 41, 42, 43, 44, 45, 46, 47, 48, 49, 50, 51, 52, 53, 54, 55, 56, 57, 58, 59, 60, 61, 62, 63, 64, 65, 66, 67, 68, 69, 70, 71, 72, 73, 74, 75, 76, 77, 78, 79, 80, 81, 82, 83, 84, 85, 86, 87, 88, 89, 90, 91, 92, 93, 94, 95, 96, 97, 98, 99, 100, 101, 102, 103, 104, 105, 106, 107, 108, 109, 110, 111, 112, 113, 114, 115, 116, 117, 118, 119, 120, 121, 122, 123, 124, 125, 126, 127, 128, 129, 130, 131, 132, 133, 134, 135, 136, 137, 138, 139, 140, 141, 142, 143, 144, 145, 146, 147, 148, 149, 150, 151, 152, 153, 154, 155, 156, 157, 158, 159, 190, 191, 192, 193, 194, 195, 196, 197, 198, 199, 200, 201, 202, 203, 204, 205, 206, 207, 208, 209, 210, 211, 212, 213, 214, 176, 177, 178, 179, 180, 181, 182, 183, 184, 185, 186, 187, 188, 189, 215, 216, 217, 218, 219, 220] rfl (by decide +kernel)
set_option maxRecDepth 100000 in
theorem gX11_passing_X1_search : GoodIn wsX11_passing (wsV RX11 273 RX1 yX1_search wsX1_search) := goodIn_app (goodIn_of _ (by decide +kernel)) ggX11_passing_X1_search
set_option maxRecDepth 100000 in
theorem ggX11_halves_X3_goByHalves : GoodIn wsX11_halves wsX3_goByHalves := goodIn_r _ [10, 11, 12, 13, 14, 15, 16, 17, 18, 19, 20, 21, 22, 23, 24, 25, 26, 27, 28, 29, 30, 31, 32, 33, 34, 35, 36, 37, 38, 39, 40, 41, 42, 43, 44, 45, 46, 47, 48, 49, 50, 51, 52, 53, 54, 55, 56, 57, 58, 59, 60, 61, 62, 63, 64, 65, 66, 67, 68, 69, 70, 71, 72, 73, 74, 75, 76, 77, 78, 79, 80, 81, 82, 83, 84, 85, 86, 87, 88, 89, 90, 91, 92, 93, 94, 95, 96, 97, 98, 99, 100, 101, 102, 103, 104, 105, 106, 107, 108, 109, 110, 111, 112, 113, 114, 115, 116, 117, 118, 119, 120, 121, 122, 123, 124, 125, 126, 127, 128, 129, 130, 131, 132, 133, 134, 135, 136, 137, 138, 139, 140, 141, 142, 9, 143, 144, 145, 146, 147, 148, 149, 150, 151, 152, 153, 154, 155, 156, 157, 158, 159, 160, 161, 162, 163, 164, 165, 184, 185, 186, 187, 188, 189, 190, 191, 192, 193, 194, 195, 196, 197, 198, 199, 200, 201, 202, 203, 204, 205, 206, 207, 208, 209, 210, 211, 212, 213, 214, 215, 216, 217, 218, 219, 220, 221, 222, 223, 224, 225, 226, 227, 228, 229, 230] rfl (by decide +kernel)
set_option maxRecDepth 100000 in
theorem gX11_halves_X3_goByHalves : GoodIn wsX11_halves (wsV RX11 290 RX3 yX3_goByHalves wsX3_goByHalves) := goodIn_app (goodIn_of _ (by decide +kernel)) ggX11_halves_X3_goByHalves
set_option maxRecDepth 100000 in
theorem ggX11_halves_X9_hasNumber : GoodIn wsX11_halves wsX9_hasNumber := goodIn_r _ [123, 26, 27, 200, 201, 202, 203, 204, 205, 206, 207, 208, 209, 210, 211, 212, 213, 214, 215, 216, 217, 218] rfl (by decide +kernel)
set_option maxRecDepth 100000 in
theorem gX11_halves_X9_hasNumber : GoodIn wsX11_halves (wsV RX11 157 RX9 yX9_hasNumber wsX9_hasNumber) := goodIn_app (goodIn_of _ (by decide +kernel)) ggX11_halves_X9_hasNumber
set_option maxRecDepth 100000 in
theorem ggX11_halves_X9_formatOf : GoodIn wsX11_halves wsX9_formatOf := goodIn_r _ [68, 26, 27, 28, 69, 200, 201, 202, 203, 204, 205, 206, 207, 208, 209, 210, 211, 212, 213, 214, 215, 216, 217, 218, 219, 220, 221, 222, 223, 224] rfl (by decide +kernel)
set_option maxRecDepth 100000 in
theorem gX11_halves_X9_formatOf : GoodIn wsX11_halves (wsV RX11 224 RX9 yX9_formatOf wsX9_formatOf) := goodIn_app (goodIn_of _ (by decide +kernel)) ggX11_halves_X9_formatOf
set_option maxRecDepth 100000 in
theorem ggX11_single_X9_hasChoice : GoodIn wsX11_single wsX9_hasChoice := goodIn_r _ [13, 14, 15, 16, 17, 174, 175, 176, 177, 178, 179, 180, 181, 182, 183, 184, 185, 186, 187, 188, 189, 190, 191, 192, 193, 194, 195, 196, 197, 198] rfl (by decide +kernel)
set_option maxRecDepth 100000 in
theorem gX11_single_X9_hasChoice : GoodIn wsX11_single (wsV RX11 220 RX9 yX9_hasChoice wsX9_hasChoice) := goodIn_app (goodIn_of _ (by decide +kernel)) ggX11_single_X9_hasChoice
set_option maxRecDepth 100000 in
theorem ggX11_single_X3_lookAround : GoodIn wsX11_single wsX3_lookAround := goodIn_r _ [22, 23, 24, 25, 26, 27, 28, 29, 30, 31, 32, 33, 34, 35, 36, 37, 38, 39, 12, 40, 41, 14, 15, 42, 43, 44, 45, 46, 47, 48, 49, 50, 51, 52, 53, 54, 55, 56, 57, 16, 58, 59, 60, 61, 62, 63, 64, 65, 66, 67, 68, 69, 70, 71, 72, 73, 74, 75, 76, 77, 78, 79, 80, 81, 82, 83, 84, 85, 86, 87, 88, 89, 90, 91, 92, 93, 94, 95, 96, 97, 98, 99, 100, 101, 102, 103, 104, 105, 106, 107, 108, 109, 110, 111, 112, 113, 114, 115, 116, 117, 118, 119, 120, 121, 122, 123, 124, 125, 126, 127, 128, 129, 130, 131, 132, 133, 134, 158, 159, 160, 161, 162, 163, 164, 165, 166, 167, 168, 169, 170, 171, 172, 173, 174, 175, 176, 177, 178, 179, 180, 181, 182, 193, 194, 195, 196, 197, 198, 183, 184, 185, 186, 187, 188, 189, 190, 191, 192, 199, 200, 201, 202, 203, 204] rfl (by decide +kernel)
set_option maxRecDepth 100000 in
theorem gX11_single_X3_lookAround : GoodIn wsX11_single (wsV RX11 301 RX3 yX3_lookAround wsX3_lookAround) := goodIn_app (goodIn_of _ (by decide +kernel)) ggX11_single_X3_lookAround
set_option maxRecDepth 100000 in
theorem ggX11_single_X2_leaderOf : GoodIn wsX11_single wsX2_leaderOf := goodIn_r _ [139, 140, 141, 193, 194, 195, 196, 197, 198] rfl (by decide +kernel)
set_option maxRecDepth 100000 in
theorem gX11_single_X2_leaderOf : GoodIn wsX11_single (wsV RX11 314 RX2 yX2_leaderOf wsX2_leaderOf) := goodIn_app (goodIn_of _ (by decide +kernel)) ggX11_single_X2_leaderOf
set_option maxRecDepth 100000 in
theorem ggX11_take_X11_takeCheapest : GoodIn wsX11_take wsX11_takeCheapest := goodIn_r _ [9, 10, 2, 11, 4, 12, 13, 14, 15, 16, 17, 18, 19, 20, 21, 22, 23, 24, 25, 26, 27, 28, 29, 30, 31, 32, 33, 34, 35, 36, 37, 38, 39, 40, 41, 42, 43, 44, 45, 46, 47, 48, 49, 50, 51, 52, 53, 54, 55, 56, 57, 58, 59, 60, 61, 62, 63, 64, 65, 66, 67, 68, 69, 70, 71, 72, 73, 74, 75, 76, 77, 78, 79, 80, 81, 82, 83, 84, 85, 86, 87, 88, 89, 90, 91, 92, 93, 94, 95, 96, 97, 98, 99, 100, 101, 102, 103, 104, 105, 106, 107, 108, 109, 110, 111, 8, 112, 113, 114, 115, 116, 117, 118, 119, 120, 121, 122, 123, 124, 125, 126, 127, 128, 129, 130, 131, 132, 133, 134, 135, 136, 137, 138, 139, 140, 141, 142, 143, 144, 145, 146, 147, 148, 149, 150, 151, 152, 153, 154, 155, 156, 157, 158, 159, 160, 161, 162, 163, 164, 165, 166, 167, 253, 254, 255, 256, 257, 258, 259, 260, 261, 262, 263, 264, 265, 266, 267, 268, 285, 286, 287, 288, 289, 290, 291, 292, 293, 294, 295, 296, 297, 298, 299, 300, 301, 302, 303, 304, 305, 306, 307, 308, 309, 310, 311, 312, 313, 314, 315, 316, 317, 318, 319, 320, 321, 322, 323, 324, 325, 326, 327, 328, 329] rfl (by decide +kernel)
set_option maxRecDepth 100000 in
theorem gX11_take_X11_takeCheapest : GoodIn wsX11_take (wsV RX11 320 RX11 yX11_takeCheapest wsX11_takeCheapest) := goodIn_app (goodIn_of _ (by decide +kernel)) ggX11_take_X11_takeCheapest
set_option maxRecDepth 100000 in
theorem ggX11_take_X3_goByHalves : GoodIn wsX11_take wsX3_goByHalves := goodIn_r _ [172, 173, 174, 175, 176, 177, 178, 179, 180, 181, 182, 183, 25, 26, 27, 28, 29, 30, 31, 32, 184, 185, 186, 187, 95, 96, 188, 189, 190, 191, 192, 193, 194, 195, 65, 66, 67, 68, 69, 70, 71, 72, 73, 74, 75, 76, 77, 78, 79, 80, 81, 82, 83, 84, 85, 86, 87, 88, 89, 90, 91, 92, 93, 94, 97, 98, 99, 100, 101, 102, 103, 45, 104, 47, 105, 106, 107, 108, 109, 110, 111, 8, 112, 113, 114, 115, 116, 117, 118, 119, 120, 121, 122, 123, 124, 125, 126, 127, 128, 129, 130, 131, 132, 133, 134, 135, 136, 137, 138, 139, 140, 141, 142, 143, 196, 145, 146, 147, 148, 149, 150, 151, 152, 153, 154, 155, 156, 157, 158, 159, 197, 198, 199, 171, 200, 201, 202, 203, 204, 205, 206, 207, 208, 209, 210, 211, 212, 213, 214, 215, 216, 217, 218, 219, 220, 221, 222, 269, 270, 271, 272, 273, 274, 275, 276, 277, 278, 279, 280, 281, 282, 283, 284, 299, 300, 301, 302, 303, 304, 305, 306, 307, 308, 309, 310, 311, 312, 313, 314, 315, 316, 317, 318, 319, 320, 321, 322, 323, 324, 325, 326, 327, 328, 329] rfl (by decide +kernel)
set_option maxRecDepth 100000 in
theorem gX11_take_X3_goByHalves : GoodIn wsX11_take (wsV RX11 290 RX3 yX3_goByHalves wsX3_goByHalves) := goodIn_app (goodIn_of _ (by decide +kernel)) ggX11_take_X3_goByHalves
