set_option maxRecDepth 100000 in
theorem ggX12_told_X12_isIn : GoodIn wsX12_told wsX12_isIn := goodIn_r _ [15] rfl (by decide +kernel)
set_option maxRecDepth 100000 in
theorem gX12_told_X12_isIn : GoodIn wsX12_told (va_wsS RX12 263 yX12_isIn wsX12_isIn) := goodIn_app (goodIn_of _ (by decide +kernel)) ggX12_told_X12_isIn
set_option maxRecDepth 100000 in
theorem ggX12_rounded_X12_floor : GoodIn wsX12_rounded wsX12_floor := goodIn_r _ [5] rfl (by decide +kernel)
set_option maxRecDepth 100000 in
theorem gX12_rounded_X12_floor : GoodIn wsX12_rounded (va_wsS RX12 385 yX12_floor wsX12_floor) := goodIn_app (goodIn_of _ (by decide +kernel)) ggX12_rounded_X12_floor
set_option maxRecDepth 100000 in
theorem ggX12_roundedProduct_X12_floor : GoodIn wsX12_roundedProduct wsX12_floor := goodIn_r _ [7] rfl (by decide +kernel)
set_option maxRecDepth 100000 in
theorem gX12_roundedProduct_X12_floor : GoodIn wsX12_roundedProduct (va_wsS RX12 385 yX12_floor wsX12_floor) := goodIn_app (goodIn_of _ (by decide +kernel)) ggX12_roundedProduct_X12_floor
set_option maxRecDepth 100000 in
theorem ggX12_two_X12_roundedProduct : GoodIn wsX12_two wsX12_roundedProduct := goodIn_r _ [4, 5, 6, 7, 8, 9, 3, 10] rfl (by decide +kernel)
set_option maxRecDepth 100000 in
theorem gX12_two_X12_roundedProduct : GoodIn wsX12_two (va_wsS RX12 392 yX12_roundedProduct wsX12_roundedProduct) := goodIn_app (goodIn_of _ (by decide +kernel)) ggX12_two_X12_roundedProduct
set_option maxRecDepth 100000 in
theorem ggX12_two_X12_lesser : GoodIn wsX12_two wsX12_lesser := goodIn_r _ [13] rfl (by decide +kernel)
set_option maxRecDepth 100000 in
theorem gX12_two_X12_lesser : GoodIn wsX12_two (va_wsS RX12 322 yX12_lesser wsX12_lesser) := goodIn_app (goodIn_of _ (by decide +kernel)) ggX12_two_X12_lesser
set_option maxRecDepth 100000 in
theorem ggX12_two_X12_greater : GoodIn wsX12_two wsX12_greater := goodIn_r _ [16] rfl (by decide +kernel)
set_option maxRecDepth 100000 in
theorem gX12_two_X12_greater : GoodIn wsX12_two (va_wsS RX12 396 yX12_greater wsX12_greater) := goodIn_app (goodIn_of _ (by decide +kernel)) ggX12_two_X12_greater
set_option maxRecDepth 100000 in
theorem ggX12_laysRange_X12_lowOf : GoodIn wsX12_laysRange wsX12_lowOf := goodIn_r _ [12, 13, 14, 7, 5, 4, 37, 38, 39, 40, 41, 42, 43, 44, 45, 46, 47, 48, 49, 50, 51, 52, 53, 54, 55, 56, 57, 58, 59, 60, 61, 62, 63, 64, 65, 66, 67, 68, 69, 70, 71, 72, 73, 74, 75, 76, 77, 78, 79, 80, 81, 82, 83, 84, 85, 86, 87, 88, 89, 90, 91, 92, 93, 94, 95, 96, 97, 98, 99, 100, 101, 102, 103] rfl (by decide +kernel)
set_option maxRecDepth 100000 in
theorem gX12_laysRange_X12_lowOf : GoodIn wsX12_laysRange (wsV RX12 399 RX12 yX12_lowOf wsX12_lowOf) := goodIn_app (goodIn_of _ (by decide +kernel)) ggX12_laysRange_X12_lowOf
set_option maxRecDepth 100000 in
theorem ggX12_laysRange_X12_highOf : GoodIn wsX12_laysRange wsX12_highOf := goodIn_r _ [18, 13, 14, 7, 5, 6, 37, 38, 39, 40, 41, 42, 43, 44, 45, 46, 47, 48, 49, 50, 51, 52, 53, 54, 55, 56, 57, 58, 59, 60, 61, 62, 63, 64, 65, 66, 67, 68, 69, 70, 71, 72, 73, 74, 75, 76, 77, 78, 79, 80, 81, 82, 83, 84, 85, 86, 87, 88, 89, 90, 91, 92, 93, 94, 95, 96, 97, 98, 99, 100, 101, 102, 103] rfl (by decide +kernel)
set_option maxRecDepth 100000 in
theorem gX12_laysRange_X12_highOf : GoodIn wsX12_laysRange (wsV RX12 403 RX12 yX12_highOf wsX12_highOf) := goodIn_app (goodIn_of _ (by decide +kernel)) ggX12_laysRange_X12_highOf
set_option maxRecDepth 100000 in
theorem ggX12_laysRange_X12_two : GoodIn wsX12_laysRange wsX12_two := goodIn_r _ [21, 22, 23, 11, 24, 25, 26, 27, 28, 29, 30, 31, 32, 33, 34, 35, 36] rfl (by decide +kernel)
set_option maxRecDepth 100000 in
theorem gX12_laysRange_X12_two : GoodIn wsX12_laysRange (va_wsS RX12 406 yX12_two wsX12_two) := goodIn_app (goodIn_of _ (by decide +kernel)) ggX12_laysRange_X12_two
set_option maxRecDepth 100000 in
theorem ggX12_laysRange_X12_lesser : GoodIn wsX12_laysRange wsX12_lesser := goodIn_r _ [33] rfl (by decide +kernel)
set_option maxRecDepth 100000 in
theorem gX12_laysRange_X12_lesser : GoodIn wsX12_laysRange (va_wsS RX12 322 yX12_lesser wsX12_lesser) := goodIn_app (goodIn_of _ (by decide +kernel)) ggX12_laysRange_X12_lesser
set_option maxRecDepth 100000 in
theorem ggX12_laysRange_X12_greater : GoodIn wsX12_laysRange wsX12_greater := goodIn_r _ [36] rfl (by decide +kernel)
set_option maxRecDepth 100000 in
theorem gX12_laysRange_X12_greater : GoodIn wsX12_laysRange (va_wsS RX12 396 yX12_greater wsX12_greater) := goodIn_app (goodIn_of _ (by decide +kernel)) ggX12_laysRange_X12_greater
set_option maxRecDepth 100000 in
theorem ggX12_mostOf_X12_amount : GoodIn wsX12_mostOf wsX12_amount := goodIn_r _ [6] rfl (by decide +kernel)
set_option maxRecDepth 100000 in
theorem gX12_mostOf_X12_amount : GoodIn wsX12_mostOf (va_wsS RX12 410 yX12_amount wsX12_amount) := goodIn_app (goodIn_of _ (by decide +kernel)) ggX12_mostOf_X12_amount
set_option maxRecDepth 100000 in
theorem ggX12_mostOf_X12_greater : GoodIn wsX12_mostOf wsX12_greater := goodIn_r _ [9] rfl (by decide +kernel)
set_option maxRecDepth 100000 in
theorem gX12_mostOf_X12_greater : GoodIn wsX12_mostOf (va_wsS RX12 396 yX12_greater wsX12_greater) := goodIn_app (goodIn_of _ (by decide +kernel)) ggX12_mostOf_X12_greater
set_option maxRecDepth 100000 in
theorem ggX12_range_X12_isNumber : GoodIn wsX12_range wsX12_isNumber := goodIn_r _ [13, 14, 15, 16, 12, 17, 63, 64, 65, 66, 67, 68, 69, 70, 71, 72, 73, 74, 75, 76, 77, 78, 79, 80, 81, 82, 83, 84, 85, 86, 87, 88, 89, 90, 91, 92, 93, 94, 95, 96, 97, 98, 99, 100, 101, 102, 103, 104, 105, 106, 107, 108, 109, 110, 111, 112, 113, 114, 115, 116, 117, 118, 119, 120, 121, 122, 123, 124, 125, 126, 127, 128, 129] rfl (by decide +kernel)
set_option maxRecDepth 100000 in
theorem gX12_range_X12_isNumber : GoodIn wsX12_range (wsV RX12 373 RX12 yX12_isNumber wsX12_isNumber) := goodIn_app (goodIn_of _ (by decide +kernel)) ggX12_range_X12_isNumber
set_option maxRecDepth 100000 in
theorem ggX12_range_X12_isGreatPart : GoodIn wsX12_range wsX12_isGreatPart := goodIn_r _ [21, 3, 63, 64, 65, 66, 67, 68, 69, 70, 71, 72, 73, 74, 75, 76, 77, 78, 79, 80, 81, 82, 83, 84, 85, 86, 87, 88, 89, 90, 91, 92, 93, 94, 95, 96, 97, 98, 99, 100, 101, 102, 103, 104, 105, 106, 107, 108, 109, 110, 111, 112, 113, 114, 115, 116, 117, 118, 119, 120, 121, 122, 123, 124, 125, 126, 127, 128, 129] rfl (by decide +kernel)
set_option maxRecDepth 100000 in
theorem gX12_range_X12_isGreatPart : GoodIn wsX12_range (wsV RX12 414 RX12 yX12_isGreatPart wsX12_isGreatPart) := goodIn_app (goodIn_of _ (by decide +kernel)) ggX12_range_X12_isGreatPart
set_option maxRecDepth 100000 in
theorem ggX12_range_X12_laysRange : GoodIn wsX12_range wsX12_laysRange := goodIn_r _ [25, 26, 2, 27, 8, 28, 7, 29, 30, 31, 32, 12, 33, 5, 4, 34, 35, 36, 37, 38, 39, 40, 41, 42, 43, 44, 45, 46, 47, 48, 49, 50, 51, 52, 53, 54, 55, 63, 64, 65, 66, 67, 68, 69, 70, 71, 72, 73, 74, 75, 76, 77, 78, 79, 80, 81, 82, 83, 84, 85, 86, 87, 88, 89, 90, 91, 92, 93, 94, 95, 96, 97, 98, 99, 100, 101, 102, 103, 104, 105, 106, 107, 108, 109, 110, 111, 112, 113, 114, 115, 116, 117, 118, 119, 120, 121, 122, 123, 124, 125, 126, 127, 128, 129] rfl (by decide +kernel)
set_option maxRecDepth 100000 in
theorem gX12_range_X12_laysRange : GoodIn wsX12_range (wsV RX12 417 RX12 yX12_laysRange wsX12_laysRange) := goodIn_app (goodIn_of _ (by decide +kernel)) ggX12_range_X12_laysRange
set_option maxRecDepth 100000 in
theorem ggX12_range_X12_mostOf : GoodIn wsX12_range wsX12_mostOf := goodIn_r _ [59, 8, 7, 60, 61, 12, 62, 53, 54, 55, 63, 64, 65, 66, 67, 68, 69, 70, 71, 72, 73, 74, 75, 76, 77, 78, 79, 80, 81, 82, 83, 84, 85, 86, 87, 88, 89, 90, 91, 92, 93, 94, 95, 96, 97, 98, 99, 100, 101, 102, 103, 104, 105, 106, 107, 108, 109, 110, 111, 112, 113, 114, 115, 116, 117, 118, 119, 120, 121, 122, 123, 124, 125, 126, 127, 128, 129] rfl (by decide +kernel)
set_option maxRecDepth 100000 in
theorem gX12_range_X12_mostOf : GoodIn wsX12_range (wsV RX12 420 RX12 yX12_mostOf wsX12_mostOf) := goodIn_app (goodIn_of _ (by decide +kernel)) ggX12_range_X12_mostOf
set_option maxRecDepth 100000 in
theorem ggX12_uses_X12_isNumber : GoodIn wsX12_uses wsX12_isNumber := goodIn_r _ [8, 1, 9, 10, 7, 11, 12, 13, 14, 15, 16, 17, 18, 19, 20, 21, 22, 23, 24, 25, 26, 27, 28, 29, 30, 31, 32, 33, 34, 35, 36, 37, 38, 39, 40, 41, 42, 43, 44, 45, 46, 47, 48, 49, 50, 51, 52, 53, 54, 55, 56, 57, 58, 59, 60, 61, 62, 63, 64, 65, 66, 67, 68, 69, 70, 71, 72, 73, 74, 75, 76, 77, 78] rfl (by decide +kernel)
set_option maxRecDepth 100000 in
theorem gX12_uses_X12_isNumber : GoodIn wsX12_uses (wsV RX12 373 RX12 yX12_isNumber wsX12_isNumber) := goodIn_app (goodIn_of _ (by decide +kernel)) ggX12_uses_X12_isNumber
set_option maxRecDepth 100000 in
theorem ggX12_depth_X12_isNumber : GoodIn wsX12_depth wsX12_isNumber := goodIn_r _ [9, 10, 11, 12, 8, 13, 18, 19, 20, 21, 22, 23, 24, 25, 26, 27, 28, 29, 30, 31, 32, 33, 34, 35, 36, 37, 38, 39, 40, 41, 42, 43, 44, 45, 46, 47, 48, 49, 50, 51, 52, 53, 54, 55, 56, 57, 58, 59, 60, 61, 62, 63, 64, 65, 66, 67, 68, 69, 70, 71, 72, 73, 74, 75, 76, 77, 78, 79, 80, 81, 82, 83, 84] rfl (by decide +kernel)
set_option maxRecDepth 100000 in
theorem gX12_depth_X12_isNumber : GoodIn wsX12_depth (wsV RX12 373 RX12 yX12_isNumber wsX12_isNumber) := goodIn_app (goodIn_of _ (by decide +kernel)) ggX12_depth_X12_isNumber
set_option maxRecDepth 100000 in
theorem ggX12_depth_X12_deepOf : GoodIn wsX12_depth wsX12_deepOf := goodIn_r _ [17, 3, 18, 19, 20, 21, 22, 23, 24, 25, 26, 27, 28, 29, 30, 31, 32, 33, 34, 35, 36, 37, 38, 39, 40, 41, 42, 43, 44, 45, 46, 47, 48, 49, 50, 51, 52, 53, 54, 55, 56, 57, 58, 59, 60, 61, 62, 63, 64, 65, 66, 67, 68, 69, 70, 71, 72, 73, 74, 75, 76, 77, 78, 79, 80, 81, 82, 83, 84] rfl (by decide +kernel)
set_option maxRecDepth 100000 in
theorem gX12_depth_X12_deepOf : GoodIn wsX12_depth (wsV RX12 424 RX12 yX12_deepOf wsX12_deepOf) := goodIn_app (goodIn_of _ (by decide +kernel)) ggX12_depth_X12_deepOf
set_option maxRecDepth 100000 in
theorem ggX12_laysError_X12_castError : GoodIn wsX12_laysError wsX12_castError := goodIn_r _ [11, 1, 2, 12, 13, 14, 15, 3, 5, 35, 36, 37, 38, 39, 40, 41, 42, 43, 44, 45, 46, 47, 48, 49, 50, 51, 52, 53, 54, 55, 56, 57, 58, 59, 60, 61, 62, 63, 64, 65, 66, 67, 68, 69, 70, 71, 72, 73, 74, 75, 76, 77, 78, 79, 80, 81, 82, 83, 84, 85, 86, 87, 88, 89, 90, 91, 92, 93, 94, 95, 96, 97, 98, 99, 100, 101] rfl (by decide +kernel)
set_option maxRecDepth 100000 in
theorem gX12_laysError_X12_castError : GoodIn wsX12_laysError (wsV RX12 427 RX12 yX12_castError wsX12_castError) := goodIn_app (goodIn_of _ (by decide +kernel)) ggX12_laysError_X12_castError
set_option maxRecDepth 100000 in
theorem ggX12_laysError_X12_lowOf : GoodIn wsX12_laysError wsX12_lowOf := goodIn_r _ [19, 12, 13, 14, 15, 20, 35, 36, 37, 38, 39, 40, 41, 42, 43, 44, 45, 46, 47, 48, 49, 50, 51, 52, 53, 54, 55, 56, 57, 58, 59, 60, 61, 62, 63, 64, 65, 66, 67, 68, 69, 70, 71, 72, 73, 74, 75, 76, 77, 78, 79, 80, 81, 82, 83, 84, 85, 86, 87, 88, 89, 90, 91, 92, 93, 94, 95, 96, 97, 98, 99, 100, 101] rfl (by decide +kernel)
set_option maxRecDepth 100000 in
theorem gX12_laysError_X12_lowOf : GoodIn wsX12_laysError (wsV RX12 399 RX12 yX12_lowOf wsX12_lowOf) := goodIn_app (goodIn_of _ (by decide +kernel)) ggX12_laysError_X12_lowOf
set_option maxRecDepth 100000 in
theorem ggX12_laysError_X12_amount : GoodIn wsX12_laysError wsX12_amount := goodIn_r _ [23] rfl (by decide +kernel)
set_option maxRecDepth 100000 in
theorem gX12_laysError_X12_amount : GoodIn wsX12_laysError (va_wsS RX12 410 yX12_amount wsX12_amount) := goodIn_app (goodIn_of _ (by decide +kernel)) ggX12_laysError_X12_amount
set_option maxRecDepth 100000 in
theorem ggX12_laysError_X12_highOf : GoodIn wsX12_laysError wsX12_highOf := goodIn_r _ [27, 12, 13, 14, 15, 28, 35, 36, 37, 38, 39, 40, 41, 42, 43, 44, 45, 46, 47, 48, 49, 50, 51, 52, 53, 54, 55, 56, 57, 58, 59, 60, 61, 62, 63, 64, 65, 66, 67, 68, 69, 70, 71, 72, 73, 74, 75, 76, 77, 78, 79, 80, 81, 82, 83, 84, 85, 86, 87, 88, 89, 90, 91, 92, 93, 94, 95, 96, 97, 98, 99, 100, 101] rfl (by decide +kernel)
set_option maxRecDepth 100000 in
theorem gX12_laysError_X12_highOf : GoodIn wsX12_laysError (wsV RX12 403 RX12 yX12_highOf wsX12_highOf) := goodIn_app (goodIn_of _ (by decide +kernel)) ggX12_laysError_X12_highOf
set_option maxRecDepth 100000 in
theorem ggX12_laysError_X12_greater : GoodIn wsX12_laysError wsX12_greater := goodIn_r _ [31] rfl (by decide +kernel)
set_option maxRecDepth 100000 in
theorem gX12_laysError_X12_greater : GoodIn wsX12_laysError (va_wsS RX12 396 yX12_greater wsX12_greater) := goodIn_app (goodIn_of _ (by decide +kernel)) ggX12_laysError_X12_greater
set_option maxRecDepth 100000 in
theorem ggX12_laysError_X12_floor : GoodIn wsX12_laysError wsX12_floor := goodIn_r _ [34] rfl (by decide +kernel)
set_option maxRecDepth 100000 in
theorem gX12_laysError_X12_floor : GoodIn wsX12_laysError (va_wsS RX12 385 yX12_floor wsX12_floor) := goodIn_app (goodIn_of _ (by decide +kernel)) ggX12_laysError_X12_floor
set_option maxRecDepth 100000 in
theorem ggX12_passes_X12_laysRange : GoodIn wsX12_passes wsX12_laysRange := goodIn_r _ [12, 13, 14, 15, 16, 17, 18, 19, 20, 21, 22, 11, 23, 24, 25, 26, 27, 28, 29, 30, 31, 32, 33, 34, 35, 36, 37, 38, 39, 40, 41, 42, 43, 44, 45, 46, 47, 64, 65, 66, 67, 68, 69, 70, 71, 72, 73, 74, 75, 76, 77, 78, 79, 80, 81, 82, 83, 84, 85, 86, 87, 88, 89, 90, 91, 92, 93, 94, 95, 96, 97, 98, 99, 100, 101, 102, 103, 104, 105, 106, 107, 108, 109, 110, 111, 112, 113, 114, 115, 116, 117, 118, 119, 120, 121, 122, 123, 124, 125, 126, 127, 128, 129, 130] rfl (by decide +kernel)
set_option maxRecDepth 100000 in
theorem gX12_passes_X12_laysRange : GoodIn wsX12_passes (wsV RX12 417 RX12 yX12_laysRange wsX12_laysRange) := goodIn_app (goodIn_of _ (by decide +kernel)) ggX12_passes_X12_laysRange
set_option maxRecDepth 100000 in
theorem ggX12_passes_X12_laysError : GoodIn wsX12_passes wsX12_laysError := goodIn_r _ [51, 52, 6, 36, 13, 4, 37, 53, 54, 55, 11, 56, 24, 25, 19, 17, 20, 21, 22, 23, 16, 57, 58, 59, 26, 27, 28, 29, 18, 45, 46, 47, 39, 40, 41, 64, 65, 66, 67, 68, 69, 70, 71, 72, 73, 74, 75, 76, 77, 78, 79, 80, 81, 82, 83, 84, 85, 86, 87, 88, 89, 90, 91, 92, 93, 94, 95, 96, 97, 98, 99, 100, 101, 102, 103, 104, 105, 106, 107, 108, 109, 110, 111, 112, 113, 114, 115, 116, 117, 118, 119, 120, 121, 122, 123, 124, 125, 126, 127, 128, 129, 130] rfl (by decide +kernel)
set_option maxRecDepth 100000 in
theorem gX12_passes_X12_laysError : GoodIn wsX12_passes (wsV RX12 430 RX12 yX12_laysError wsX12_laysError) := goodIn_app (goodIn_of _ (by decide +kernel)) ggX12_passes_X12_laysError
set_option maxRecDepth 100000 in
theorem ggX12_passes_X12_mostOf : GoodIn wsX12_passes wsX12_mostOf := goodIn_r _ [63, 16, 18, 57, 58, 11, 59, 45, 46, 47, 64, 65, 66, 67, 68, 69, 70, 71, 72, 73, 74, 75, 76, 77, 78, 79, 80, 81, 82, 83, 84, 85, 86, 87, 88, 89, 90, 91, 92, 93, 94, 95, 96, 97, 98, 99, 100, 101, 102, 103, 104, 105, 106, 107, 108, 109, 110, 111, 112, 113, 114, 115, 116, 117, 118, 119, 120, 121, 122, 123, 124, 125, 126, 127, 128, 129, 130] rfl (by decide +kernel)
set_option maxRecDepth 100000 in
theorem gX12_passes_X12_mostOf : GoodIn wsX12_passes (wsV RX12 420 RX12 yX12_mostOf wsX12_mostOf) := goodIn_app (goodIn_of _ (by decide +kernel)) ggX12_passes_X12_mostOf
set_option maxRecDepth 100000 in
theorem ggX12_castsTried_X12_isCast : GoodIn wsX12_castsTried wsX12_isCast := goodIn_r _ [8, 9, 10, 11, 12, 13, 14, 15, 16, 17, 18, 19, 20, 21, 22, 23, 24, 25, 26, 27, 28, 29, 30, 31, 32, 33, 34, 35, 36, 37, 38, 39, 40, 41, 42, 43, 44, 45, 46, 47, 48, 49, 50, 51, 52, 53, 54, 55, 56, 57, 58, 59, 60, 61, 62, 63, 64, 65, 66, 67, 68, 69, 70, 71, 72, 73, 74, 75, 76] rfl (by decide +kernel)
set_option maxRecDepth 100000 in
theorem gX12_castsTried_X12_isCast : GoodIn wsX12_castsTried (wsV RX12 433 RX12 yX12_isCast wsX12_isCast) := goodIn_app (goodIn_of _ (by decide +kernel)) ggX12_castsTried_X12_isCast
set_option maxRecDepth 100000 in
theorem ggX12_costTried_X12_castsTried : GoodIn wsX12_costTried wsX12_castsTried := goodIn_r _ [9, 2, 10, 11, 12, 13, 14, 8, 15, 4, 16, 17, 18, 19, 20, 21, 22, 23, 24, 25, 26, 27, 28, 29, 30, 31, 32, 33, 34, 35, 36, 37, 38, 39, 40, 41, 42, 43, 44, 45, 46, 47, 48, 49, 50, 51, 52, 53, 54, 55, 56, 57, 58, 59, 60, 61, 62, 63, 64, 65, 66, 67, 68, 69, 70, 71, 72, 73, 74, 75, 76, 77, 78, 79, 80, 81, 82] rfl (by decide +kernel)
set_option maxRecDepth 100000 in
theorem gX12_costTried_X12_castsTried : GoodIn wsX12_costTried (wsV RX12 437 RX12 yX12_castsTried wsX12_castsTried) := goodIn_app (goodIn_of _ (by decide +kernel)) ggX12_costTried_X12_castsTried
set_option maxRecDepth 100000 in
theorem ggX12_handPasses_X12_triesHand : GoodIn wsX12_handPasses wsX12_triesHand := goodIn_r _ [8, 3, 9, 10, 74, 75, 76, 77, 78, 79, 80, 81, 82, 83, 84, 85, 86, 87, 88, 89, 90, 91, 92, 93, 94, 95, 96, 97, 98, 99, 100, 101, 102, 103, 104, 105, 106, 107, 108, 109, 110, 111, 112, 113, 114, 115, 116, 117, 118, 119, 120, 121, 122, 123, 124, 125, 126, 127, 128, 129, 130, 131, 132, 133, 134, 135, 136, 137, 138, 139, 140] rfl (by decide +kernel)
set_option maxRecDepth 100000 in
theorem gX12_handPasses_X12_triesHand : GoodIn wsX12_handPasses (wsV RX12 440 RX12 yX12_triesHand wsX12_triesHand) := goodIn_app (goodIn_of _ (by decide +kernel)) ggX12_handPasses_X12_triesHand
set_option maxRecDepth 100000 in
theorem ggX12_handPasses_X12_passes : GoodIn wsX12_handPasses wsX12_passes := goodIn_r _ [14, 15, 16, 3, 17, 18, 9, 19, 20, 21, 22, 7, 23, 24, 1, 25, 26, 27, 28, 29, 30, 31, 32, 33, 34, 35, 36, 37, 38, 39, 40, 41, 42, 43, 44, 45, 46, 47, 48, 49, 50, 51, 52, 53, 54, 55, 56, 57, 58, 59, 60, 61, 62, 63, 64, 65, 66, 67, 68, 69, 70, 71, 72, 73, 74, 75, 76, 77, 78, 79, 80, 81, 82, 83, 84, 85, 86, 87, 88, 89, 90, 91, 92, 93, 94, 95, 96, 97, 98, 99, 100, 101, 102, 103, 104, 105, 106, 107, 108, 109, 110, 111, 112, 113, 114, 115, 116, 117, 118, 119, 120, 121, 122, 123, 124, 125, 126, 127, 128, 129, 130, 131, 132, 133, 134, 135, 136, 137, 138, 139, 140] rfl (by decide +kernel)
set_option maxRecDepth 100000 in
theorem gX12_handPasses_X12_passes : GoodIn wsX12_handPasses (wsV RX12 443 RX12 yX12_passes wsX12_passes) := goodIn_app (goodIn_of _ (by decide +kernel)) ggX12_handPasses_X12_passes
set_option maxRecDepth 100000 in
theorem ggX12_chosen_X12_isNumber : GoodIn wsX12_chosen wsX12_isNumber := goodIn_r _ [7, 8, 9, 10, 6, 11, 12, 13, 14, 15, 16, 17, 18, 19, 20, 21, 22, 23, 24, 25, 26, 27, 28, 29, 30, 31, 32, 33, 34, 35, 36, 37, 38, 39, 40, 41, 42, 43, 44, 45, 46, 47, 48, 49, 50, 51, 52, 53, 54, 55, 56, 57, 58, 59, 60, 61, 62, 63, 64, 65, 66, 67, 68, 69, 70, 71, 72, 73, 74, 75, 76, 77, 78] rfl (by decide +kernel)
set_option maxRecDepth 100000 in
theorem gX12_chosen_X12_isNumber : GoodIn wsX12_chosen (wsV RX12 373 RX12 yX12_isNumber wsX12_isNumber) := goodIn_app (goodIn_of _ (by decide +kernel)) ggX12_chosen_X12_isNumber
set_option maxRecDepth 100000 in
theorem ggX12_choose_X12_isNumber : GoodIn wsX12_choose wsX12_isNumber := goodIn_r _ [9, 4, 10, 11, 8, 12, 28, 29, 30, 31, 32, 33, 34, 35, 36, 37, 38, 39, 40, 41, 42, 43, 44, 45, 46, 47, 48, 49, 50, 51, 52, 53, 54, 55, 56, 57, 58, 59, 60, 61, 62, 63, 64, 65, 66, 67, 68, 69, 70, 71, 72, 73, 74, 75, 76, 77, 78, 79, 80, 81, 82, 83, 84, 85, 86, 87, 88, 89, 90, 91, 92, 93, 94] rfl (by decide +kernel)
set_option maxRecDepth 100000 in
theorem gX12_choose_X12_isNumber : GoodIn wsX12_choose (wsV RX12 373 RX12 yX12_isNumber wsX12_isNumber) := goodIn_app (goodIn_of _ (by decide +kernel)) ggX12_choose_X12_isNumber
set_option maxRecDepth 100000 in
theorem ggX12_choose_X12_isFormat : GoodIn wsX12_choose wsX12_isFormat := goodIn_r _ [16, 17, 10, 11, 8, 12, 28, 29, 30, 31, 32, 33, 34, 35, 36, 37, 38, 39, 40, 41, 42, 43, 44, 45, 46, 47, 48, 49, 50, 51, 52, 53, 54, 55, 56, 57, 58, 59, 60, 61, 62, 63, 64, 65, 66, 67, 68, 69, 70, 71, 72, 73, 74, 75, 76, 77, 78, 79, 80, 81, 82, 83, 84, 85, 86, 87, 88, 89, 90, 91, 92, 93, 94] rfl (by decide +kernel)
set_option maxRecDepth 100000 in
theorem gX12_choose_X12_isFormat : GoodIn wsX12_choose (wsV RX12 370 RX12 yX12_isFormat wsX12_isFormat) := goodIn_app (goodIn_of _ (by decide +kernel)) ggX12_choose_X12_isFormat
set_option maxRecDepth 100000 in
theorem ggX12_choose_X12_isFree : GoodIn wsX12_choose wsX12_isFree := goodIn_r _ [21, 4, 2, 22, 28, 29, 30, 31, 32, 33, 34, 35, 36, 37, 38, 39, 40, 41, 42, 43, 44, 45, 46, 47, 48, 49, 50, 51, 52, 53, 54, 55, 56, 57, 58, 59, 60, 61, 62, 63, 64, 65, 66, 67, 68, 69, 70, 71, 72, 73, 74, 75, 76, 77, 78, 79, 80, 81, 82, 83, 84, 85, 86, 87, 88, 89, 90, 91, 92, 93, 94] rfl (by decide +kernel)
set_option maxRecDepth 100000 in
theorem gX12_choose_X12_isFree : GoodIn wsX12_choose (wsV RX12 355 RX12 yX12_isFree wsX12_isFree) := goodIn_app (goodIn_of _ (by decide +kernel)) ggX12_choose_X12_isFree
set_option maxRecDepth 100000 in
theorem ggX12_choose_X12_refuses : GoodIn wsX12_choose wsX12_refuses := goodIn_r _ [26, 27, 28, 29, 30, 31, 32, 33, 34, 35, 36, 37, 38, 39, 40, 41, 42, 43, 44, 45, 46, 47, 48, 49, 50, 51, 52, 53, 54, 55, 56, 57, 58, 59, 60, 61, 62, 63, 64, 65, 66, 67, 68, 69, 70, 71, 72, 73, 74, 75, 76, 77, 78, 79, 80, 81, 82, 83, 84, 85, 86, 87, 88, 89, 90, 91, 92, 93, 94] rfl (by decide +kernel)
set_option maxRecDepth 100000 in
theorem gX12_choose_X12_refuses : GoodIn wsX12_choose (wsV RX12 216 RX12 yX12_refuses wsX12_refuses) := goodIn_app (goodIn_of _ (by decide +kernel)) ggX12_choose_X12_refuses
set_option maxRecDepth 100000 in
theorem ggX12_cost_X12_isThere : GoodIn wsX12_cost wsX12_isThere := goodIn_r _ [5, 6, 7, 30, 31, 32, 33, 34, 35, 36, 37, 38, 39, 40, 41, 42, 43, 44, 45, 46, 47, 48, 49, 50, 51, 52, 53, 54, 55, 56, 57, 58, 59, 60, 61, 62, 63, 64, 65, 66, 67, 68, 69, 70, 71, 72, 73, 74, 75, 76, 77, 78, 79, 80, 81, 82, 83, 84, 85, 86, 87, 88, 89, 90, 91, 92, 93, 94, 95, 96] rfl (by decide +kernel)
set_option maxRecDepth 100000 in
theorem gX12_cost_X12_isThere : GoodIn wsX12_cost (wsV RX12 446 RX12 yX12_isThere wsX12_isThere) := goodIn_app (goodIn_of _ (by decide +kernel)) ggX12_cost_X12_isThere
set_option maxRecDepth 100000 in
theorem ggX12_cost_X12_triesHand : GoodIn wsX12_cost wsX12_triesHand := goodIn_r _ [11, 7, 12, 13, 30, 31, 32, 33, 34, 35, 36, 37, 38, 39, 40, 41, 42, 43, 44, 45, 46, 47, 48, 49, 50, 51, 52, 53, 54, 55, 56, 57, 58, 59, 60, 61, 62, 63, 64, 65, 66, 67, 68, 69, 70, 71, 72, 73, 74, 75, 76, 77, 78, 79, 80, 81, 82, 83, 84, 85, 86, 87, 88, 89, 90, 91, 92, 93, 94, 95, 96] rfl (by decide +kernel)
set_option maxRecDepth 100000 in
theorem gX12_cost_X12_triesHand : GoodIn wsX12_cost (wsV RX12 440 RX12 yX12_triesHand wsX12_triesHand) := goodIn_app (goodIn_of _ (by decide +kernel)) ggX12_cost_X12_triesHand
set_option maxRecDepth 100000 in
theorem ggX12_cost_X12_costTried : GoodIn wsX12_cost wsX12_costTried := goodIn_r _ [17, 18, 7, 19, 12, 20, 21, 22, 4, 23, 24, 25, 26, 27, 28, 29, 30, 31, 32, 33, 34, 35, 36, 37, 38, 39, 40, 41, 42, 43, 44, 45, 46, 47, 48, 49, 50, 51, 52, 53, 54, 55, 56, 57, 58, 59, 60, 61, 62, 63, 64, 65, 66, 67, 68, 69, 70, 71, 72, 73, 74, 75, 76, 77, 78, 79, 80, 81, 82, 83, 84, 85, 86, 87, 88, 89, 90, 91, 92, 93, 94, 95, 96] rfl (by decide +kernel)
set_option maxRecDepth 100000 in
theorem gX12_cost_X12_costTried : GoodIn wsX12_cost (wsV RX12 449 RX12 yX12_costTried wsX12_costTried) := goodIn_app (goodIn_of _ (by decide +kernel)) ggX12_cost_X12_costTried
set_option maxRecDepth 100000 in
theorem ggX12_casts_X12_isThere : GoodIn wsX12_casts wsX12_isThere := goodIn_r _ [5, 6, 7, 24, 25, 26, 27, 28, 29, 30, 31, 32, 33, 34, 35, 36, 37, 38, 39, 40, 41, 42, 43, 44, 45, 46, 47, 48, 49, 50, 51, 52, 53, 54, 55, 56, 57, 58, 59, 60, 61, 62, 63, 64, 65, 66, 67, 68, 69, 70, 71, 72, 73, 74, 75, 76, 77, 78, 79, 80, 81, 82, 83, 84, 85, 86, 87, 88, 89, 90] rfl (by decide +kernel)
set_option maxRecDepth 100000 in
theorem gX12_casts_X12_isThere : GoodIn wsX12_casts (wsV RX12 446 RX12 yX12_isThere wsX12_isThere) := goodIn_app (goodIn_of _ (by decide +kernel)) ggX12_casts_X12_isThere
set_option maxRecDepth 100000 in
theorem ggX12_casts_X12_triesHand : GoodIn wsX12_casts wsX12_triesHand := goodIn_r _ [11, 7, 12, 13, 24, 25, 26, 27, 28, 29, 30, 31, 32, 33, 34, 35, 36, 37, 38, 39, 40, 41, 42, 43, 44, 45, 46, 47, 48, 49, 50, 51, 52, 53, 54, 55, 56, 57, 58, 59, 60, 61, 62, 63, 64, 65, 66, 67, 68, 69, 70, 71, 72, 73, 74, 75, 76, 77, 78, 79, 80, 81, 82, 83, 84, 85, 86, 87, 88, 89, 90] rfl (by decide +kernel)
set_option maxRecDepth 100000 in
theorem gX12_casts_X12_triesHand : GoodIn wsX12_casts (wsV RX12 440 RX12 yX12_triesHand wsX12_triesHand) := goodIn_app (goodIn_of _ (by decide +kernel)) ggX12_casts_X12_triesHand
set_option maxRecDepth 100000 in
theorem ggX12_casts_X12_castsTried : GoodIn wsX12_casts wsX12_castsTried := goodIn_r _ [17, 7, 18, 19, 20, 21, 22, 4, 23, 12, 24, 25, 26, 27, 28, 29, 30, 31, 32, 33, 34, 35, 36, 37, 38, 39, 40, 41, 42, 43, 44, 45, 46, 47, 48, 49, 50, 51, 52, 53, 54, 55, 56, 57, 58, 59, 60, 61, 62, 63, 64, 65, 66, 67, 68, 69, 70, 71, 72, 73, 74, 75, 76, 77, 78, 79, 80, 81, 82, 83, 84, 85, 86, 87, 88, 89, 90] rfl (by decide +kernel)
set_option maxRecDepth 100000 in
theorem gX12_casts_X12_castsTried : GoodIn wsX12_casts (wsV RX12 437 RX12 yX12_castsTried wsX12_castsTried) := goodIn_app (goodIn_of _ (by decide +kernel)) ggX12_casts_X12_castsTried
set_option maxRecDepth 100000 in
theorem ggX12_fails_X12_isThere : GoodIn wsX12_fails wsX12_isThere := goodIn_r _ [6, 7, 8, 82, 83, 84, 85, 86, 87, 88, 89, 90, 91, 92, 93, 94, 95, 96, 97, 98, 99, 100, 101, 102, 103, 104, 105, 106, 107, 108, 109, 110, 111, 112, 113, 114, 115, 116, 117, 118, 119, 120, 121, 122, 123, 124, 125, 126, 127, 128, 129, 130, 131, 132, 133, 134, 135, 136, 137, 138, 139, 140, 141, 142, 143, 144, 145, 146, 147, 148] rfl (by decide +kernel)
set_option maxRecDepth 100000 in
theorem gX12_fails_X12_isThere : GoodIn wsX12_fails (wsV RX12 446 RX12 yX12_isThere wsX12_isThere) := goodIn_app (goodIn_of _ (by decide +kernel)) ggX12_fails_X12_isThere
set_option maxRecDepth 100000 in
theorem ggX12_fails_X12_handPasses : GoodIn wsX12_fails wsX12_handPasses := goodIn_r _ [12, 13, 7, 8, 14, 15, 16, 5, 17, 18, 19, 20, 21, 22, 23, 1, 24, 25, 26, 27, 28, 29, 30, 31, 32, 33, 34, 35, 36, 37, 38, 39, 40, 41, 42, 43, 44, 45, 46, 47, 48, 49, 50, 51, 52, 53, 54, 55, 56, 57, 58, 59, 60, 61, 62, 63, 64, 65, 66, 67, 68, 69, 70, 71, 72, 73, 74, 75, 76, 77, 78, 79, 80, 81, 82, 83, 84, 85, 86, 87, 88, 89, 90, 91, 92, 93, 94, 95, 96, 97, 98, 99, 100, 101, 102, 103, 104, 105, 106, 107, 108, 109, 110, 111, 112, 113, 114, 115, 116, 117, 118, 119, 120, 121, 122, 123, 124, 125, 126, 127, 128, 129, 130, 131, 132, 133, 134, 135, 136, 137, 138, 139, 140, 141, 142, 143, 144, 145, 146, 147, 148] rfl (by decide +kernel)
set_option maxRecDepth 100000 in
theorem gX12_fails_X12_handPasses : GoodIn wsX12_fails (wsV RX12 452 RX12 yX12_handPasses wsX12_handPasses) := goodIn_app (goodIn_of _ (by decide +kernel)) ggX12_fails_X12_handPasses
set_option maxRecDepth 100000 in
theorem ggX12_why_X12_isThere : GoodIn wsX12_why wsX12_isThere := goodIn_r _ [6, 7, 8, 82, 83, 84, 85, 86, 87, 88, 89, 90, 91, 92, 93, 94, 95, 96, 97, 98, 99, 100, 101, 102, 103, 104, 105, 106, 107, 108, 109, 110, 111, 112, 113, 114, 115, 116, 117, 118, 119, 120, 121, 122, 123, 124, 125, 126, 127, 128, 129, 130, 131, 132, 133, 134, 135, 136, 137, 138, 139, 140, 141, 142, 143, 144, 145, 146, 147, 148] rfl (by decide +kernel)
set_option maxRecDepth 100000 in
theorem gX12_why_X12_isThere : GoodIn wsX12_why (wsV RX12 446 RX12 yX12_isThere wsX12_isThere) := goodIn_app (goodIn_of _ (by decide +kernel)) ggX12_why_X12_isThere
set_option maxRecDepth 100000 in
theorem ggX12_why_X12_handPasses : GoodIn wsX12_why wsX12_handPasses := goodIn_r _ [12, 13, 7, 8, 14, 15, 16, 5, 17, 18, 19, 20, 21, 22, 23, 24, 1, 25, 26, 27, 28, 29, 30, 31, 32, 33, 34, 35, 36, 37, 38, 39, 40, 41, 42, 43, 44, 45, 46, 47, 48, 49, 50, 51, 52, 53, 54, 55, 56, 57, 58, 59, 60, 61, 62, 63, 64, 65, 66, 67, 68, 69, 70, 71, 72, 73, 74, 75, 76, 77, 78, 79, 80, 81, 82, 83, 84, 85, 86, 87, 88, 89, 90, 91, 92, 93, 94, 95, 96, 97, 98, 99, 100, 101, 102, 103, 104, 105, 106, 107, 108, 109, 110, 111, 112, 113, 114, 115, 116, 117, 118, 119, 120, 121, 122, 123, 124, 125, 126, 127, 128, 129, 130, 131, 132, 133, 134, 135, 136, 137, 138, 139, 140, 141, 142, 143, 144, 145, 146, 147, 148] rfl (by decide +kernel)
set_option maxRecDepth 100000 in
theorem gX12_why_X12_handPasses : GoodIn wsX12_why (wsV RX12 452 RX12 yX12_handPasses wsX12_handPasses) := goodIn_app (goodIn_of _ (by decide +kernel)) ggX12_why_X12_handPasses
set_option maxRecDepth 100000 in
theorem ggX12_error_X12_isThere : GoodIn wsX12_error wsX12_isThere := goodIn_r _ [8, 9, 10, 90, 91, 92, 93, 94, 95, 96, 97, 98, 99, 100, 101, 102, 103, 104, 105, 106, 107, 108, 109, 110, 111, 112, 113, 114, 115, 116, 117, 118, 119, 120, 121, 122, 123, 124, 125, 126, 127, 128, 129, 130, 131, 132, 133, 134, 135, 136, 137, 138, 139, 140, 141, 142, 143, 144, 145, 146, 147, 148, 149, 150, 151, 152, 153, 154, 155, 156] rfl (by decide +kernel)
set_option maxRecDepth 100000 in
theorem gX12_error_X12_isThere : GoodIn wsX12_error (wsV RX12 446 RX12 yX12_isThere wsX12_isThere) := goodIn_app (goodIn_of _ (by decide +kernel)) ggX12_error_X12_isThere
set_option maxRecDepth 100000 in
theorem ggX12_error_X12_isNumber : GoodIn wsX12_error wsX12_isNumber := goodIn_r _ [14, 10, 15, 16, 7, 17, 90, 91, 92, 93, 94, 95, 96, 97, 98, 99, 100, 101, 102, 103, 104, 105, 106, 107, 108, 109, 110, 111, 112, 113, 114, 115, 116, 117, 118, 119, 120, 121, 122, 123, 124, 125, 126, 127, 128, 129, 130, 131, 132, 133, 134, 135, 136, 137, 138, 139, 140, 141, 142, 143, 144, 145, 146, 147, 148, 149, 150, 151, 152, 153, 154, 155, 156] rfl (by decide +kernel)
set_option maxRecDepth 100000 in
theorem gX12_error_X12_isNumber : GoodIn wsX12_error (wsV RX12 373 RX12 yX12_isNumber wsX12_isNumber) := goodIn_app (goodIn_of _ (by decide +kernel)) ggX12_error_X12_isNumber
set_option maxRecDepth 100000 in
theorem ggX12_error_X12_handPasses : GoodIn wsX12_error wsX12_handPasses := goodIn_r _ [21, 22, 9, 10, 23, 24, 25, 7, 26, 27, 28, 29, 30, 31, 32, 2, 33, 3, 34, 35, 36, 37, 38, 39, 40, 41, 42, 43, 44, 45, 46, 47, 48, 49, 50, 51, 52, 53, 54, 55, 56, 57, 58, 59, 60, 61, 62, 63, 64, 65, 66, 67, 68, 69, 70, 71, 72, 73, 74, 75, 76, 77, 78, 79, 80, 81, 82, 83, 84, 85, 86, 87, 88, 89, 90, 91, 92, 93, 94, 95, 96, 97, 98, 99, 100, 101, 102, 103, 104, 105, 106, 107, 108, 109, 110, 111, 112, 113, 114, 115, 116, 117, 118, 119, 120, 121, 122, 123, 124, 125, 126, 127, 128, 129, 130, 131, 132, 133, 134, 135, 136, 137, 138, 139, 140, 141, 142, 143, 144, 145, 146, 147, 148, 149, 150, 151, 152, 153, 154, 155, 156] rfl (by decide +kernel)
set_option maxRecDepth 100000 in
theorem gX12_error_X12_handPasses : GoodIn wsX12_error (wsV RX12 452 RX12 yX12_handPasses wsX12_handPasses) := goodIn_app (goodIn_of _ (by decide +kernel)) ggX12_error_X12_handPasses
set_option maxRecDepth 100000 in
theorem ggX12_isAnswer_X12_isNumber : GoodIn wsX12_isAnswer wsX12_isNumber := goodIn_r _ [6, 7, 8, 9, 5, 10, 11, 12, 13, 14, 15, 16, 17, 18, 19, 20, 21, 22, 23, 24, 25, 26, 27, 28, 29, 30, 31, 32, 33, 34, 35, 36, 37, 38, 39, 40, 41, 42, 43, 44, 45, 46, 47, 48, 49, 50, 51, 52, 53, 54, 55, 56, 57, 58, 59, 60, 61, 62, 63, 64, 65, 66, 67, 68, 69, 70, 71, 72, 73, 74, 75, 76, 77] rfl (by decide +kernel)
set_option maxRecDepth 100000 in
theorem gX12_isAnswer_X12_isNumber : GoodIn wsX12_isAnswer (wsV RX12 373 RX12 yX12_isNumber wsX12_isNumber) := goodIn_app (goodIn_of _ (by decide +kernel)) ggX12_isAnswer_X12_isNumber
set_option maxRecDepth 100000 in
theorem ggX12_slack_X12_isAnswer : GoodIn wsX12_slack wsX12_isAnswer := goodIn_r _ [8, 1, 9, 10, 11, 7, 12, 13, 14, 15, 16, 90, 91, 92, 93, 94, 95, 96, 97, 98, 99, 100, 101, 102, 103, 104, 105, 106, 107, 108, 109, 110, 111, 112, 113, 114, 115, 116, 117, 118, 119, 120, 121, 122, 123, 124, 125, 126, 127, 128, 129, 130, 131, 132, 133, 134, 135, 136, 137, 138, 139, 140, 141, 142, 143, 144, 145, 146, 147, 148, 149, 150, 151, 152, 153, 154, 155, 156] rfl (by decide +kernel)
set_option maxRecDepth 100000 in
theorem gX12_slack_X12_isAnswer : GoodIn wsX12_slack (wsV RX12 455 RX12 yX12_isAnswer wsX12_isAnswer) := goodIn_app (goodIn_of _ (by decide +kernel)) ggX12_slack_X12_isAnswer
set_option maxRecDepth 100000 in
theorem ggX12_slack_X12_handPasses : GoodIn wsX12_slack wsX12_handPasses := goodIn_r _ [20, 21, 22, 13, 23, 24, 25, 7, 26, 27, 28, 29, 30, 31, 32, 33, 34, 2, 35, 1, 36, 37, 38, 39, 40, 41, 42, 43, 44, 45, 46, 47, 48, 49, 50, 51, 52, 53, 54, 55, 56, 57, 58, 59, 60, 61, 62, 63, 64, 65, 66, 67, 68, 69, 70, 71, 72, 73, 74, 75, 76, 77, 78, 79, 80, 81, 82, 83, 84, 85, 86, 87, 88, 89, 90, 91, 92, 93, 94, 95, 96, 97, 98, 99, 100, 101, 102, 103, 104, 105, 106, 107, 108, 109, 110, 111, 112, 113, 114, 115, 116, 117, 118, 119, 120, 121, 122, 123, 124, 125, 126, 127, 128, 129, 130, 131, 132, 133, 134, 135, 136, 137, 138, 139, 140, 141, 142, 143, 144, 145, 146, 147, 148, 149, 150, 151, 152, 153, 154, 155, 156] rfl (by decide +kernel)
set_option maxRecDepth 100000 in
theorem gX12_slack_X12_handPasses : GoodIn wsX12_slack (wsV RX12 452 RX12 yX12_handPasses wsX12_handPasses) := goodIn_app (goodIn_of _ (by decide +kernel)) ggX12_slack_X12_handPasses
set_option maxRecDepth 100000 in
theorem ggX12_widest_X12_isNumber : GoodIn wsX12_widest wsX12_isNumber := goodIn_r _ [9, 10, 11, 12, 8, 13, 86, 87, 88, 89, 90, 91, 92, 93, 94, 95, 96, 97, 98, 99, 100, 101, 102, 103, 104, 105, 106, 107, 108, 109, 110, 111, 112, 113, 114, 115, 116, 117, 118, 119, 120, 121, 122, 123, 124, 125, 126, 127, 128, 129, 130, 131, 132, 133, 134, 135, 136, 137, 138, 139, 140, 141, 142, 143, 144, 145, 146, 147, 148, 149, 150, 151, 152] rfl (by decide +kernel)
set_option maxRecDepth 100000 in
theorem gX12_widest_X12_isNumber : GoodIn wsX12_widest (wsV RX12 373 RX12 yX12_isNumber wsX12_isNumber) := goodIn_app (goodIn_of _ (by decide +kernel)) ggX12_widest_X12_isNumber
set_option maxRecDepth 100000 in
theorem ggX12_widest_X12_handPasses : GoodIn wsX12_widest wsX12_handPasses := goodIn_r _ [17, 3, 18, 10, 19, 20, 21, 8, 22, 23, 24, 25, 26, 27, 28, 29, 30, 31, 32, 33, 34, 35, 36, 37, 1, 4, 38, 39, 40, 41, 42, 43, 44, 45, 46, 47, 48, 49, 50, 51, 52, 53, 54, 55, 56, 57, 58, 59, 60, 61, 62, 63, 64, 65, 66, 67, 68, 69, 70, 71, 72, 73, 74, 75, 76, 77, 78, 79, 80, 81, 82, 83, 84, 85, 86, 87, 88, 89, 90, 91, 92, 93, 94, 95, 96, 97, 98, 99, 100, 101, 102, 103, 104, 105, 106, 107, 108, 109, 110, 111, 112, 113, 114, 115, 116, 117, 118, 119, 120, 121, 122, 123, 124, 125, 126, 127, 128, 129, 130, 131, 132, 133, 134, 135, 136, 137, 138, 139, 140, 141, 142, 143, 144, 145, 146, 147, 148, 149, 150, 151, 152] rfl (by decide +kernel)
set_option maxRecDepth 100000 in
theorem gX12_widest_X12_handPasses : GoodIn wsX12_widest (wsV RX12 452 RX12 yX12_handPasses wsX12_handPasses) := goodIn_app (goodIn_of _ (by decide +kernel)) ggX12_widest_X12_handPasses
set_option maxRecDepth 100000 in
theorem ggX12_widest_X12_passes : GoodIn wsX12_widest wsX12_passes := goodIn_r _ [28, 29, 30, 10, 31, 32, 23, 33, 34, 35, 36, 8, 37, 1, 3, 4, 38, 39, 40, 41, 42, 43, 44, 45, 46, 47, 48, 49, 50, 51, 52, 53, 54, 55, 56, 57, 58, 59, 60, 61, 62, 63, 64, 65, 66, 67, 68, 69, 70, 71, 72, 73, 74, 75, 76, 77, 78, 79, 80, 81, 82, 83, 84, 85, 86, 87, 88, 89, 90, 91, 92, 93, 94, 95, 96, 97, 98, 99, 100, 101, 102, 103, 104, 105, 106, 107, 108, 109, 110, 111, 112, 113, 114, 115, 116, 117, 118, 119, 120, 121, 122, 123, 124, 125, 126, 127, 128, 129, 130, 131, 132, 133, 134, 135, 136, 137, 138, 139, 140, 141, 142, 143, 144, 145, 146, 147, 148, 149, 150, 151, 152] rfl (by decide +kernel)
set_option maxRecDepth 100000 in
theorem gX12_widest_X12_passes : GoodIn wsX12_widest (wsV RX12 443 RX12 yX12_passes wsX12_passes) := goodIn_app (goodIn_of _ (by decide +kernel)) ggX12_widest_X12_passes
set_option maxRecDepth 100000 in
theorem ggX12_blame_X12_isAnswer : GoodIn wsX12_blame wsX12_isAnswer := goodIn_r _ [8, 9, 10, 11, 12, 7, 13, 14, 15, 16, 17, 105, 106, 107, 108, 109, 110, 111, 112, 113, 114, 115, 116, 117, 118, 119, 120, 121, 122, 123, 124, 125, 126, 127, 128, 129, 130, 131, 132, 133, 134, 135, 136, 137, 138, 139, 140, 141, 142, 143, 144, 145, 146, 147, 148, 149, 150, 151, 152, 153, 154, 155, 156, 157, 158, 159, 160, 161, 162, 163, 164, 165, 166, 167, 168, 169, 170, 171] rfl (by decide +kernel)
set_option maxRecDepth 100000 in
theorem gX12_blame_X12_isAnswer : GoodIn wsX12_blame (wsV RX12 455 RX12 yX12_isAnswer wsX12_isAnswer) := goodIn_app (goodIn_of _ (by decide +kernel)) ggX12_blame_X12_isAnswer
set_option maxRecDepth 100000 in
theorem ggX12_blame_X12_isNumber : GoodIn wsX12_blame wsX12_isNumber := goodIn_r _ [13, 14, 15, 16, 7, 17, 105, 106, 107, 108, 109, 110, 111, 112, 113, 114, 115, 116, 117, 118, 119, 120, 121, 122, 123, 124, 125, 126, 127, 128, 129, 130, 131, 132, 133, 134, 135, 136, 137, 138, 139, 140, 141, 142, 143, 144, 145, 146, 147, 148, 149, 150, 151, 152, 153, 154, 155, 156, 157, 158, 159, 160, 161, 162, 163, 164, 165, 166, 167, 168, 169, 170, 171] rfl (by decide +kernel)
set_option maxRecDepth 100000 in
theorem gX12_blame_X12_isNumber : GoodIn wsX12_blame (wsV RX12 373 RX12 yX12_isNumber wsX12_isNumber) := goodIn_app (goodIn_of _ (by decide +kernel)) ggX12_blame_X12_isNumber
set_option maxRecDepth 100000 in
theorem ggX12_blame_X12_isFree : GoodIn wsX12_blame wsX12_isFree := goodIn_r _ [21, 14, 1, 22, 105, 106, 107, 108, 109, 110, 111, 112, 113, 114, 115, 116, 117, 118, 119, 120, 121, 122, 123, 124, 125, 126, 127, 128, 129, 130, 131, 132, 133, 134, 135, 136, 137, 138, 139, 140, 141, 142, 143, 144, 145, 146, 147, 148, 149, 150, 151, 152, 153, 154, 155, 156, 157, 158, 159, 160, 161, 162, 163, 164, 165, 166, 167, 168, 169, 170, 171] rfl (by decide +kernel)
set_option maxRecDepth 100000 in
theorem gX12_blame_X12_isFree : GoodIn wsX12_blame (wsV RX12 355 RX12 yX12_isFree wsX12_isFree) := goodIn_app (goodIn_of _ (by decide +kernel)) ggX12_blame_X12_isFree
set_option maxRecDepth 100000 in
theorem ggX12_blame_X12_handPasses : GoodIn wsX12_blame wsX12_handPasses := goodIn_r _ [26, 27, 28, 14, 29, 30, 31, 7, 32, 33, 34, 35, 36, 37, 38, 39, 40, 3, 41, 9, 42, 43, 44, 45, 46, 47, 48, 49, 50, 51, 52, 53, 54, 55, 56, 57, 58, 59, 60, 61, 62, 63, 64, 65, 66, 67, 68, 69, 70, 71, 72, 73, 74, 75, 76, 77, 78, 79, 80, 81, 82, 83, 84, 85, 86, 87, 88, 89, 90, 91, 92, 93, 94, 95, 105, 106, 107, 108, 109, 110, 111, 112, 113, 114, 115, 116, 117, 118, 119, 120, 121, 122, 123, 124, 125, 126, 127, 128, 129, 130, 131, 132, 133, 134, 135, 136, 137, 138, 139, 140, 141, 142, 143, 144, 145, 146, 147, 148, 149, 150, 151, 152, 153, 154, 155, 156, 157, 158, 159, 160, 161, 162, 163, 164, 165, 166, 167, 168, 169, 170, 171] rfl (by decide +kernel)
set_option maxRecDepth 100000 in
theorem gX12_blame_X12_handPasses : GoodIn wsX12_blame (wsV RX12 452 RX12 yX12_handPasses wsX12_handPasses) := goodIn_app (goodIn_of _ (by decide +kernel)) ggX12_blame_X12_handPasses
set_option maxRecDepth 100000 in
theorem ggX12_blame_X12_finest : GoodIn wsX12_blame wsX12_finest := goodIn_r _ [99, 100, 84, 105, 106, 107, 108, 109, 110, 111, 112, 113, 114, 115, 116, 117, 118, 119, 120, 121, 122, 123, 124, 125, 126, 127, 128, 129, 130, 131, 132, 133, 134, 135, 136, 137, 138, 139, 140, 141, 142, 143, 144, 145, 146, 147, 148, 149, 150, 151, 152, 153, 154, 155, 156, 157, 158, 159, 160, 161, 162, 163, 164, 165, 166, 167, 168, 169, 170, 171] rfl (by decide +kernel)
set_option maxRecDepth 100000 in
theorem gX12_blame_X12_finest : GoodIn wsX12_blame (wsV RX12 459 RX12 yX12_finest wsX12_finest) := goodIn_app (goodIn_of _ (by decide +kernel)) ggX12_blame_X12_finest
set_option maxRecDepth 100000 in
theorem ggX12_blame_X12_triesGroup : GoodIn wsX12_blame wsX12_triesGroup := goodIn_r _ [104, 14, 33, 1, 105, 106, 107, 108, 109, 110, 111, 112, 113, 114, 115, 116, 117, 118, 119, 120, 121, 122, 123, 124, 125, 126, 127, 128, 129, 130, 131, 132, 133, 134, 135, 136, 137, 138, 139, 140, 141, 142, 143, 144, 145, 146, 147, 148, 149, 150, 151, 152, 153, 154, 155, 156, 157, 158, 159, 160, 161, 162, 163, 164, 165, 166, 167, 168, 169, 170, 171] rfl (by decide +kernel)
set_option maxRecDepth 100000 in
theorem gX12_blame_X12_triesGroup : GoodIn wsX12_blame (wsV RX12 462 RX12 yX12_triesGroup wsX12_triesGroup) := goodIn_app (goodIn_of _ (by decide +kernel)) ggX12_blame_X12_triesGroup
set_option maxRecDepth 100000 in
theorem ggX12_blame_X12_passes : GoodIn wsX12_blame wsX12_passes := goodIn_r _ [38, 39, 40, 14, 3, 41, 33, 9, 42, 43, 44, 7, 45, 46, 27, 47, 48, 49, 50, 51, 52, 53, 54, 55, 56, 57, 58, 59, 60, 61, 62, 63, 64, 65, 66, 67, 68, 69, 70, 71, 72, 73, 74, 75, 76, 77, 78, 79, 80, 81, 82, 83, 84, 85, 86, 87, 88, 89, 90, 91, 92, 93, 94, 95, 105, 106, 107, 108, 109, 110, 111, 112, 113, 114, 115, 116, 117, 118, 119, 120, 121, 122, 123, 124, 125, 126, 127, 128, 129, 130, 131, 132, 133, 134, 135, 136, 137, 138, 139, 140, 141, 142, 143, 144, 145, 146, 147, 148, 149, 150, 151, 152, 153, 154, 155, 156, 157, 158, 159, 160, 161, 162, 163, 164, 165, 166, 167, 168, 169, 170, 171] rfl (by decide +kernel)
set_option maxRecDepth 100000 in
theorem gX12_blame_X12_passes : GoodIn wsX12_blame (wsV RX12 443 RX12 yX12_passes wsX12_passes) := goodIn_app (goodIn_of _ (by decide +kernel)) ggX12_blame_X12_passes
set_option maxRecDepth 100000 in
theorem ggX12_canSearch_X12_laysFree : GoodIn wsX12_canSearch wsX12_laysFree := goodIn_r _ [9, 4, 2, 10, 11, 12, 13, 14, 8, 15, 16, 17, 18, 19, 20, 21, 22, 23, 24, 25, 26, 27, 28, 29, 30, 31, 32, 33, 34, 35, 36, 37, 38, 39, 40, 41, 42, 43, 44, 45, 46, 47, 48, 49, 50, 51, 52, 53, 54, 55, 56, 57, 58, 59, 60, 61, 62, 63, 64, 65, 66, 67, 68, 69, 70, 71, 72, 73, 74, 75, 76, 77, 78, 79, 80, 81, 82, 83] rfl (by decide +kernel)
set_option maxRecDepth 100000 in
theorem gX12_canSearch_X12_laysFree : GoodIn wsX12_canSearch (wsV RX12 358 RX12 yX12_laysFree wsX12_laysFree) := goodIn_app (goodIn_of _ (by decide +kernel)) ggX12_canSearch_X12_laysFree
set_option maxRecDepth 100000 in
theorem ggX12_triesChoice_X12_triesHand : GoodIn wsX12_triesChoice wsX12_triesHand := goodIn_r _ [8, 9, 10, 11, 17, 18, 19, 20, 21, 22, 23, 24, 25, 26, 27, 28, 29, 30, 31, 32, 33, 34, 35, 36, 37, 38, 39, 40, 41, 42, 43, 44, 45, 46, 47, 48, 49, 50, 51, 52, 53, 54, 55, 56, 57, 58, 59, 60, 61, 62, 63, 64, 65, 66, 67, 68, 69, 70, 71, 72, 73, 74, 75, 76, 77, 78, 79, 80, 81, 82, 83] rfl (by decide +kernel)
set_option maxRecDepth 100000 in
theorem gX12_triesChoice_X12_triesHand : GoodIn wsX12_triesChoice (wsV RX12 440 RX12 yX12_triesHand wsX12_triesHand) := goodIn_app (goodIn_of _ (by decide +kernel)) ggX12_triesChoice_X12_triesHand
set_option maxRecDepth 100000 in
theorem ggX12_triesChoice_X12_triesGroup : GoodIn wsX12_triesChoice wsX12_triesGroup := goodIn_r _ [15, 9, 10, 16, 17, 18, 19, 20, 21, 22, 23, 24, 25, 26, 27, 28, 29, 30, 31, 32, 33, 34, 35, 36, 37, 38, 39, 40, 41, 42, 43, 44, 45, 46, 47, 48, 49, 50, 51, 52, 53, 54, 55, 56, 57, 58, 59, 60, 61, 62, 63, 64, 65, 66, 67, 68, 69, 70, 71, 72, 73, 74, 75, 76, 77, 78, 79, 80, 81, 82, 83] rfl (by decide +kernel)
set_option maxRecDepth 100000 in
theorem gX12_triesChoice_X12_triesGroup : GoodIn wsX12_triesChoice (wsV RX12 462 RX12 yX12_triesGroup wsX12_triesGroup) := goodIn_app (goodIn_of _ (by decide +kernel)) ggX12_triesChoice_X12_triesGroup
set_option maxRecDepth 100000 in
theorem ggX12_cheapestChoice_X12_allChoices : GoodIn wsX12_cheapestChoice wsX12_allChoices := goodIn_r _ [5, 6, 7, 103, 104, 105, 106, 107, 108, 109, 110, 111, 112, 113, 114, 115, 116, 117, 118, 119, 120, 121, 122, 123, 124, 125, 126, 127, 128, 129, 130, 131, 132, 133, 134, 135, 136, 137, 138, 139, 140, 141, 142, 143, 144, 145, 146, 147, 148, 149, 150, 151, 152, 153, 154, 155, 156, 157, 158, 159, 160, 161, 162, 163, 164, 165, 166, 167, 168, 169] rfl (by decide +kernel)
set_option maxRecDepth 100000 in
theorem gX12_cheapestChoice_X12_allChoices : GoodIn wsX12_cheapestChoice (wsV RX12 465 RX12 yX12_allChoices wsX12_allChoices) := goodIn_app (goodIn_of _ (by decide +kernel)) ggX12_cheapestChoice_X12_allChoices
set_option maxRecDepth 100000 in
theorem ggX12_cheapestChoice_X12_triesChoice : GoodIn wsX12_cheapestChoice wsX12_triesChoice := goodIn_r _ [11, 6, 12, 7, 13, 14, 15, 4, 16, 17, 18, 19, 20, 21, 22, 23, 24, 103, 104, 105, 106, 107, 108, 109, 110, 111, 112, 113, 114, 115, 116, 117, 118, 119, 120, 121, 122, 123, 124, 125, 126, 127, 128, 129, 130, 131, 132, 133, 134, 135, 136, 137, 138, 139, 140, 141, 142, 143, 144, 145, 146, 147, 148, 149, 150, 151, 152, 153, 154, 155, 156, 157, 158, 159, 160, 161, 162, 163, 164, 165, 166, 167, 168, 169] rfl (by decide +kernel)
set_option maxRecDepth 100000 in
theorem gX12_cheapestChoice_X12_triesChoice : GoodIn wsX12_cheapestChoice (wsV RX12 468 RX12 yX12_triesChoice wsX12_triesChoice) := goodIn_app (goodIn_of _ (by decide +kernel)) ggX12_cheapestChoice_X12_triesChoice
set_option maxRecDepth 100000 in
theorem ggX12_cheapestChoice_X12_costTried : GoodIn wsX12_cheapestChoice wsX12_costTried := goodIn_r _ [28, 29, 17, 30, 18, 31, 32, 33, 4, 34, 35, 36, 37, 38, 39, 40, 103, 104, 105, 106, 107, 108, 109, 110, 111, 112, 113, 114, 115, 116, 117, 118, 119, 120, 121, 122, 123, 124, 125, 126, 127, 128, 129, 130, 131, 132, 133, 134, 135, 136, 137, 138, 139, 140, 141, 142, 143, 144, 145, 146, 147, 148, 149, 150, 151, 152, 153, 154, 155, 156, 157, 158, 159, 160, 161, 162, 163, 164, 165, 166, 167, 168, 169] rfl (by decide +kernel)
set_option maxRecDepth 100000 in
theorem gX12_cheapestChoice_X12_costTried : GoodIn wsX12_cheapestChoice (wsV RX12 449 RX12 yX12_costTried wsX12_costTried) := goodIn_app (goodIn_of _ (by decide +kernel)) ggX12_cheapestChoice_X12_costTried
set_option maxRecDepth 100000 in
theorem ggX12_cheapestChoice_X12_passes : GoodIn wsX12_cheapestChoice wsX12_passes := goodIn_r _ [44, 45, 46, 17, 47, 48, 18, 49, 50, 51, 52, 4, 53, 54, 55, 56, 57, 58, 59, 60, 61, 62, 63, 64, 36, 35, 65, 66, 67, 68, 69, 70, 71, 72, 73, 74, 75, 76, 77, 78, 79, 80, 81, 82, 83, 84, 85, 86, 87, 88, 89, 90, 91, 92, 93, 94, 95, 96, 97, 98, 99, 100, 101, 102, 103, 104, 105, 106, 107, 108, 109, 110, 111, 112, 113, 114, 115, 116, 117, 118, 119, 120, 121, 122, 123, 124, 125, 126, 127, 128, 129, 130, 131, 132, 133, 134, 135, 136, 137, 138, 139, 140, 141, 142, 143, 144, 145, 146, 147, 148, 149, 150, 151, 152, 153, 154, 155, 156, 157, 158, 159, 160, 161, 162, 163, 164, 165, 166, 167, 168, 169] rfl (by decide +kernel)
set_option maxRecDepth 100000 in
theorem gX12_cheapestChoice_X12_passes : GoodIn wsX12_cheapestChoice (wsV RX12 443 RX12 yX12_passes wsX12_passes) := goodIn_app (goodIn_of _ (by decide +kernel)) ggX12_cheapestChoice_X12_passes
set_option maxRecDepth 100000 in
theorem ggX12_cheapest_X12_canSearch : GoodIn wsX12_cheapest wsX12_canSearch := goodIn_r _ [6, 7, 8, 9, 10, 11, 12, 13, 5, 14, 15, 16, 17, 18, 19, 20, 21, 128, 129, 130, 131, 132, 133, 134, 135, 136, 137, 138, 139, 140, 141, 142, 143, 144, 145, 146, 147, 148, 149, 150, 151, 152, 153, 154, 155, 156, 157, 158, 159, 160, 161, 162, 163, 164, 165, 166, 167, 168, 169, 170, 171, 172, 173, 174, 175, 176, 177, 178, 179, 180, 181, 182, 183, 184, 185, 186, 187, 188, 189, 190, 191, 192, 193, 194] rfl (by decide +kernel)
set_option maxRecDepth 100000 in
theorem gX12_cheapest_X12_canSearch : GoodIn wsX12_cheapest (wsV RX12 471 RX12 yX12_canSearch wsX12_canSearch) := goodIn_app (goodIn_of _ (by decide +kernel)) ggX12_cheapest_X12_canSearch
set_option maxRecDepth 100000 in
theorem ggX12_cheapest_X12_isNumber : GoodIn wsX12_cheapest wsX12_isNumber := goodIn_r _ [25, 8, 26, 27, 5, 28, 128, 129, 130, 131, 132, 133, 134, 135, 136, 137, 138, 139, 140, 141, 142, 143, 144, 145, 146, 147, 148, 149, 150, 151, 152, 153, 154, 155, 156, 157, 158, 159, 160, 161, 162, 163, 164, 165, 166, 167, 168, 169, 170, 171, 172, 173, 174, 175, 176, 177, 178, 179, 180, 181, 182, 183, 184, 185, 186, 187, 188, 189, 190, 191, 192, 193, 194] rfl (by decide +kernel)
set_option maxRecDepth 100000 in
theorem gX12_cheapest_X12_isNumber : GoodIn wsX12_cheapest (wsV RX12 373 RX12 yX12_isNumber wsX12_isNumber) := goodIn_app (goodIn_of _ (by decide +kernel)) ggX12_cheapest_X12_isNumber
set_option maxRecDepth 100000 in
theorem ggX12_cheapest_X12_cheapestChoice : GoodIn wsX12_cheapest wsX12_cheapestChoice := goodIn_r _ [32, 33, 34, 35, 5, 36, 10, 37, 38, 39, 40, 41, 16, 42, 43, 44, 45, 8, 1, 46, 47, 48, 49, 50, 15, 51, 52, 53, 54, 55, 56, 57, 58, 59, 60, 61, 62, 63, 64, 65, 66, 67, 68, 69, 70, 71, 72, 73, 74, 75, 76, 77, 78, 79, 80, 7, 81, 82, 83, 84, 85, 86, 87, 88, 89, 90, 91, 92, 93, 94, 95, 96, 97, 98, 99, 100, 101, 102, 103, 104, 105, 106, 107, 108, 109, 110, 111, 112, 113, 114, 115, 116, 117, 118, 119, 120, 121, 122, 123, 124, 125, 126, 127, 128, 129, 130, 131, 132, 133, 134, 135, 136, 137, 138, 139, 140, 141, 142, 143, 144, 145, 146, 147, 148, 149, 150, 151, 152, 153, 154, 155, 156, 157, 158, 159, 160, 161, 162, 163, 164, 165, 166, 167, 168, 169, 170, 171, 172, 173, 174, 175, 176, 177, 178, 179, 180, 181, 182, 183, 184, 185, 186, 187, 188, 189, 190, 191, 192, 193, 194] rfl (by decide +kernel)
set_option maxRecDepth 100000 in
theorem gX12_cheapest_X12_cheapestChoice : GoodIn wsX12_cheapest (wsV RX12 474 RX12 yX12_cheapestChoice wsX12_cheapestChoice) := goodIn_app (goodIn_of _ (by decide +kernel)) ggX12_cheapest_X12_cheapestChoice
set_option maxRecDepth 100000 in
theorem ggX12_cheapest_X12_triesChoice : GoodIn wsX12_cheapest wsX12_triesChoice := goodIn_r _ [41, 10, 16, 37, 42, 43, 44, 5, 45, 8, 1, 46, 47, 48, 49, 50, 15, 128, 129, 130, 131, 132, 133, 134, 135, 136, 137, 138, 139, 140, 141, 142, 143, 144, 145, 146, 147, 148, 149, 150, 151, 152, 153, 154, 155, 156, 157, 158, 159, 160, 161, 162, 163, 164, 165, 166, 167, 168, 169, 170, 171, 172, 173, 174, 175, 176, 177, 178, 179, 180, 181, 182, 183, 184, 185, 186, 187, 188, 189, 190, 191, 192, 193, 194] rfl (by decide +kernel)
set_option maxRecDepth 100000 in
theorem gX12_cheapest_X12_triesChoice : GoodIn wsX12_cheapest (wsV RX12 468 RX12 yX12_triesChoice wsX12_triesChoice) := goodIn_app (goodIn_of _ (by decide +kernel)) ggX12_cheapest_X12_triesChoice
set_option maxRecDepth 100000 in
theorem ggX12_cheapest_X12_costTried : GoodIn wsX12_cheapest wsX12_costTried := goodIn_r _ [54, 55, 8, 56, 1, 57, 58, 59, 5, 60, 61, 62, 63, 64, 65, 66, 128, 129, 130, 131, 132, 133, 134, 135, 136, 137, 138, 139, 140, 141, 142, 143, 144, 145, 146, 147, 148, 149, 150, 151, 152, 153, 154, 155, 156, 157, 158, 159, 160, 161, 162, 163, 164, 165, 166, 167, 168, 169, 170, 171, 172, 173, 174, 175, 176, 177, 178, 179, 180, 181, 182, 183, 184, 185, 186, 187, 188, 189, 190, 191, 192, 193, 194] rfl (by decide +kernel)
set_option maxRecDepth 100000 in
theorem gX12_cheapest_X12_costTried : GoodIn wsX12_cheapest (wsV RX12 449 RX12 yX12_costTried wsX12_costTried) := goodIn_app (goodIn_of _ (by decide +kernel)) ggX12_cheapest_X12_costTried
set_option maxRecDepth 100000 in
theorem ggX12_passing_X12_laysFree : GoodIn wsX12_passing wsX12_laysFree := goodIn_r _ [9, 2, 1, 10, 11, 12, 13, 14, 8, 15, 16, 99, 100, 101, 102, 103, 104, 105, 106, 107, 108, 109, 110, 111, 112, 113, 114, 115, 116, 117, 118, 119, 120, 121, 122, 123, 124, 125, 126, 127, 128, 129, 130, 131, 132, 133, 134, 135, 136, 137, 138, 139, 140, 141, 142, 143, 144, 145, 146, 147, 148, 149, 150, 151, 152, 153, 154, 155, 156, 157, 158, 159, 160, 161, 162, 163, 164, 165] rfl (by decide +kernel)
set_option maxRecDepth 100000 in
theorem gX12_passing_X12_laysFree : GoodIn wsX12_passing (wsV RX12 358 RX12 yX12_laysFree wsX12_laysFree) := goodIn_app (goodIn_of _ (by decide +kernel)) ggX12_passing_X12_laysFree
set_option maxRecDepth 100000 in
theorem ggX12_passing_X12_allChoices : GoodIn wsX12_passing wsX12_allChoices := goodIn_r _ [20, 2, 21, 99, 100, 101, 102, 103, 104, 105, 106, 107, 108, 109, 110, 111, 112, 113, 114, 115, 116, 117, 118, 119, 120, 121, 122, 123, 124, 125, 126, 127, 128, 129, 130, 131, 132, 133, 134, 135, 136, 137, 138, 139, 140, 141, 142, 143, 144, 145, 146, 147, 148, 149, 150, 151, 152, 153, 154, 155, 156, 157, 158, 159, 160, 161, 162, 163, 164, 165] rfl (by decide +kernel)
set_option maxRecDepth 100000 in
theorem gX12_passing_X12_allChoices : GoodIn wsX12_passing (wsV RX12 465 RX12 yX12_allChoices wsX12_allChoices) := goodIn_app (goodIn_of _ (by decide +kernel)) ggX12_passing_X12_allChoices
set_option maxRecDepth 100000 in
theorem ggX12_passing_X12_triesChoice : GoodIn wsX12_passing wsX12_triesChoice := goodIn_r _ [25, 2, 11, 21, 26, 27, 28, 8, 29, 1, 30, 31, 32, 33, 34, 35, 10, 99, 100, 101, 102, 103, 104, 105, 106, 107, 108, 109, 110, 111, 112, 113, 114, 115, 116, 117, 118, 119, 120, 121, 122, 123, 124, 125, 126, 127, 128, 129, 130, 131, 132, 133, 134, 135, 136, 137, 138, 139, 140, 141, 142, 143, 144, 145, 146, 147, 148, 149, 150, 151, 152, 153, 154, 155, 156, 157, 158, 159, 160, 161, 162, 163, 164, 165] rfl (by decide +kernel)
set_option maxRecDepth 100000 in
theorem gX12_passing_X12_triesChoice : GoodIn wsX12_passing (wsV RX12 468 RX12 yX12_triesChoice wsX12_triesChoice) := goodIn_app (goodIn_of _ (by decide +kernel)) ggX12_passing_X12_triesChoice
set_option maxRecDepth 100000 in
theorem ggX12_passing_X12_passes : GoodIn wsX12_passing wsX12_passes := goodIn_r _ [39, 40, 41, 1, 42, 43, 30, 44, 45, 46, 47, 8, 48, 49, 4, 50, 51, 52, 53, 54, 55, 56, 57, 58, 59, 60, 61, 62, 63, 64, 65, 66, 67, 68, 69, 70, 71, 72, 73, 74, 75, 76, 77, 78, 79, 80, 81, 82, 83, 84, 85, 86, 87, 88, 89, 90, 91, 92, 93, 94, 95, 96, 97, 98, 99, 100, 101, 102, 103, 104, 105, 106, 107, 108, 109, 110, 111, 112, 113, 114, 115, 116, 117, 118, 119, 120, 121, 122, 123, 124, 125, 126, 127, 128, 129, 130, 131, 132, 133, 134, 135, 136, 137, 138, 139, 140, 141, 142, 143, 144, 145, 146, 147, 148, 149, 150, 151, 152, 153, 154, 155, 156, 157, 158, 159, 160, 161, 162, 163, 164, 165] rfl (by decide +kernel)
set_option maxRecDepth 100000 in
theorem gX12_passing_X12_passes : GoodIn wsX12_passing (wsV RX12 443 RX12 yX12_passes wsX12_passes) := goodIn_app (goodIn_of _ (by decide +kernel)) ggX12_passing_X12_passes
set_option maxRecDepth 100000 in
theorem ggX12_keepsTried_X12_costTried : GoodIn wsX12_keepsTried wsX12_costTried := goodIn_r _ [9, 10, 1, 11, 3, 12, 13, 14, 8, 15, 16, 17, 18, 19, 20, 21, 22, 23, 24, 25, 26, 27, 28, 29, 30, 31, 32, 33, 34, 35, 36, 37, 38, 39, 40, 41, 42, 43, 44, 45, 46, 47, 48, 49, 50, 51, 52, 53, 54, 55, 56, 57, 58, 59, 60, 61, 62, 63, 64, 65, 66, 67, 68, 69, 70, 71, 72, 73, 74, 75, 76, 77, 78, 79, 80, 81, 82, 83, 84, 85, 86, 87, 88] rfl (by decide +kernel)
set_option maxRecDepth 100000 in
theorem gX12_keepsTried_X12_costTried : GoodIn wsX12_keepsTried (wsV RX12 449 RX12 yX12_costTried wsX12_costTried) := goodIn_app (goodIn_of _ (by decide +kernel)) ggX12_keepsTried_X12_costTried
set_option maxRecDepth 100000 in
theorem ggX12_isBetter_X12_triesGroup : GoodIn wsX12_isBetter wsX12_triesGroup := goodIn_r _ [13, 1, 2, 14, 97, 98, 99, 100, 101, 102, 103, 104, 105, 106, 107, 108, 109, 110, 111, 112, 113, 114, 115, 116, 117, 118, 119, 120, 121, 122, 123, 124, 125, 126, 127, 128, 129, 130, 131, 132, 133, 134, 135, 136, 137, 138, 139, 140, 141, 142, 143, 144, 145, 146, 147, 148, 149, 150, 151, 152, 153, 154, 155, 156, 157, 158, 159, 160, 161, 162, 163] rfl (by decide +kernel)
set_option maxRecDepth 100000 in
theorem gX12_isBetter_X12_triesGroup : GoodIn wsX12_isBetter (wsV RX12 462 RX12 yX12_triesGroup wsX12_triesGroup) := goodIn_app (goodIn_of _ (by decide +kernel)) ggX12_isBetter_X12_triesGroup
set_option maxRecDepth 100000 in
theorem ggX12_isBetter_X12_passes : GoodIn wsX12_isBetter wsX12_passes := goodIn_r _ [18, 19, 20, 1, 21, 22, 2, 23, 24, 25, 26, 12, 27, 28, 29, 30, 31, 32, 33, 34, 35, 36, 37, 38, 39, 40, 41, 42, 43, 44, 45, 46, 47, 48, 49, 50, 51, 52, 53, 54, 55, 56, 57, 58, 59, 60, 61, 62, 63, 64, 65, 66, 67, 68, 69, 70, 71, 72, 73, 74, 75, 76, 77, 78, 97, 98, 99, 100, 101, 102, 103, 104, 105, 106, 107, 108, 109, 110, 111, 112, 113, 114, 115, 116, 117, 118, 119, 120, 121, 122, 123, 124, 125, 126, 127, 128, 129, 130, 131, 132, 133, 134, 135, 136, 137, 138, 139, 140, 141, 142, 143, 144, 145, 146, 147, 148, 149, 150, 151, 152, 153, 154, 155, 156, 157, 158, 159, 160, 161, 162, 163] rfl (by decide +kernel)
set_option maxRecDepth 100000 in
theorem gX12_isBetter_X12_passes : GoodIn wsX12_isBetter (wsV RX12 443 RX12 yX12_passes wsX12_passes) := goodIn_app (goodIn_of _ (by decide +kernel)) ggX12_isBetter_X12_passes
set_option maxRecDepth 100000 in
theorem ggX12_isBetter_X12_costTried : GoodIn wsX12_isBetter wsX12_costTried := goodIn_r _ [82, 83, 1, 84, 2, 85, 86, 87, 12, 88, 40, 39, 89, 90, 91, 92, 97, 98, 99, 100, 101, 102, 103, 104, 105, 106, 107, 108, 109, 110, 111, 112, 113, 114, 115, 116, 117, 118, 119, 120, 121, 122, 123, 124, 125, 126, 127, 128, 129, 130, 131, 132, 133, 134, 135, 136, 137, 138, 139, 140, 141, 142, 143, 144, 145, 146, 147, 148, 149, 150, 151, 152, 153, 154, 155, 156, 157, 158, 159, 160, 161, 162, 163] rfl (by decide +kernel)
set_option maxRecDepth 100000 in
theorem gX12_isBetter_X12_costTried : GoodIn wsX12_isBetter (wsV RX12 449 RX12 yX12_costTried wsX12_costTried) := goodIn_app (goodIn_of _ (by decide +kernel)) ggX12_isBetter_X12_costTried
set_option maxRecDepth 100000 in
theorem ggX12_isBetter_X12_keepsTried : GoodIn wsX12_isBetter wsX12_keepsTried := goodIn_r _ [96, 1, 3, 2, 7, 79, 80, 81, 12, 82, 83, 84, 85, 86, 87, 88, 40, 39, 89, 90, 91, 92, 97, 98, 99, 100, 101, 102, 103, 104, 105, 106, 107, 108, 109, 110, 111, 112, 113, 114, 115, 116, 117, 118, 119, 120, 121, 122, 123, 124, 125, 126, 127, 128, 129, 130, 131, 132, 133, 134, 135, 136, 137, 138, 139, 140, 141, 142, 143, 144, 145, 146, 147, 148, 149, 150, 151, 152, 153, 154, 155, 156, 157, 158, 159, 160, 161, 162, 163] rfl (by decide +kernel)
set_option maxRecDepth 100000 in
theorem gX12_isBetter_X12_keepsTried : GoodIn wsX12_isBetter (wsV RX12 477 RX12 yX12_keepsTried wsX12_keepsTried) := goodIn_app (goodIn_of _ (by decide +kernel)) ggX12_isBetter_X12_keepsTried
set_option maxRecDepth 100000 in
theorem ggX12_halvesBy_X12_isBetter : GoodIn wsX12_halvesBy wsX12_isBetter := goodIn_r _ [10, 11, 12, 13, 14, 3, 15, 16, 2, 17, 18, 19, 9, 20, 21, 22, 23, 24, 25, 26, 27, 28, 29, 30, 31, 32, 33, 34, 35, 36, 37, 38, 39, 40, 41, 42, 43, 44, 45, 46, 47, 48, 49, 50, 51, 52, 53, 54, 55, 56, 57, 58, 59, 60, 61, 62, 63, 64, 65, 66, 67, 68, 69, 70, 71, 72, 73, 74, 75, 76, 77, 78, 79, 80, 81, 82, 83, 84, 85, 86, 87, 88, 89, 90, 91, 92, 93, 94, 95, 96, 97, 98, 99, 100, 101, 102, 103, 104, 105, 106, 107, 108, 109, 110, 111, 112, 113, 114, 115, 116, 117, 118, 119, 120, 121, 122, 123, 124, 125, 126, 127, 128, 129, 130, 131, 132, 133, 134, 135, 136, 137, 138, 139, 140, 141, 142, 143, 144, 145, 146, 147, 148, 149, 150, 151, 152, 153, 154, 155, 156, 157, 158, 159, 160, 161, 162, 163, 164, 165, 166, 167, 168, 169, 170] rfl (by decide +kernel)
set_option maxRecDepth 100000 in
theorem gX12_halvesBy_X12_isBetter : GoodIn wsX12_halvesBy (wsV RX12 480 RX12 yX12_isBetter wsX12_isBetter) := goodIn_app (goodIn_of _ (by decide +kernel)) ggX12_halvesBy_X12_isBetter
set_option maxRecDepth 100000 in
theorem ggX12_halve_X12_laysFree : GoodIn wsX12_halve wsX12_laysFree := goodIn_r _ [11, 2, 12, 13, 3, 14, 15, 16, 10, 17, 18, 132, 133, 134, 135, 136, 137, 138, 139, 140, 141, 142, 143, 144, 145, 146, 147, 148, 149, 150, 151, 152, 153, 154, 155, 156, 157, 158, 159, 160, 161, 162, 163, 164, 165, 166, 167, 168, 169, 170, 171, 172, 173, 174, 175, 176, 177, 178, 179, 180, 181, 182, 183, 184, 185, 186, 187, 188, 189, 190, 191, 192, 193, 194, 195, 196, 197, 198] rfl (by decide +kernel)
set_option maxRecDepth 100000 in
theorem gX12_halve_X12_laysFree : GoodIn wsX12_halve (wsV RX12 358 RX12 yX12_laysFree wsX12_laysFree) := goodIn_app (goodIn_of _ (by decide +kernel)) ggX12_halve_X12_laysFree
set_option maxRecDepth 100000 in
theorem ggX12_halve_X12_isThere : GoodIn wsX12_halve wsX12_isThere := goodIn_r _ [22, 23, 12, 132, 133, 134, 135, 136, 137, 138, 139, 140, 141, 142, 143, 144, 145, 146, 147, 148, 149, 150, 151, 152, 153, 154, 155, 156, 157, 158, 159, 160, 161, 162, 163, 164, 165, 166, 167, 168, 169, 170, 171, 172, 173, 174, 175, 176, 177, 178, 179, 180, 181, 182, 183, 184, 185, 186, 187, 188, 189, 190, 191, 192, 193, 194, 195, 196, 197, 198] rfl (by decide +kernel)
set_option maxRecDepth 100000 in
theorem gX12_halve_X12_isThere : GoodIn wsX12_halve (wsV RX12 446 RX12 yX12_isThere wsX12_isThere) := goodIn_app (goodIn_of _ (by decide +kernel)) ggX12_halve_X12_isThere
set_option maxRecDepth 100000 in
theorem ggX12_halve_X12_finest : GoodIn wsX12_halve wsX12_finest := goodIn_r _ [27, 6, 28, 132, 133, 134, 135, 136, 137, 138, 139, 140, 141, 142, 143, 144, 145, 146, 147, 148, 149, 150, 151, 152, 153, 154, 155, 156, 157, 158, 159, 160, 161, 162, 163, 164, 165, 166, 167, 168, 169, 170, 171, 172, 173, 174, 175, 176, 177, 178, 179, 180, 181, 182, 183, 184, 185, 186, 187, 188, 189, 190, 191, 192, 193, 194, 195, 196, 197, 198] rfl (by decide +kernel)
set_option maxRecDepth 100000 in
theorem gX12_halve_X12_finest : GoodIn wsX12_halve (wsV RX12 459 RX12 yX12_finest wsX12_finest) := goodIn_app (goodIn_of _ (by decide +kernel)) ggX12_halve_X12_finest
set_option maxRecDepth 100000 in
theorem ggX12_halve_X12_triesHand : GoodIn wsX12_halve wsX12_triesHand := goodIn_r _ [32, 12, 33, 34, 132, 133, 134, 135, 136, 137, 138, 139, 140, 141, 142, 143, 144, 145, 146, 147, 148, 149, 150, 151, 152, 153, 154, 155, 156, 157, 158, 159, 160, 161, 162, 163, 164, 165, 166, 167, 168, 169, 170, 171, 172, 173, 174, 175, 176, 177, 178, 179, 180, 181, 182, 183, 184, 185, 186, 187, 188, 189, 190, 191, 192, 193, 194, 195, 196, 197, 198] rfl (by decide +kernel)
set_option maxRecDepth 100000 in
theorem gX12_halve_X12_triesHand : GoodIn wsX12_halve (wsV RX12 440 RX12 yX12_triesHand wsX12_triesHand) := goodIn_app (goodIn_of _ (by decide +kernel)) ggX12_halve_X12_triesHand
set_option maxRecDepth 100000 in
theorem ggX12_halve_X12_triesGroup : GoodIn wsX12_halve wsX12_triesGroup := goodIn_r _ [38, 12, 33, 13, 132, 133, 134, 135, 136, 137, 138, 139, 140, 141, 142, 143, 144, 145, 146, 147, 148, 149, 150, 151, 152, 153, 154, 155, 156, 157, 158, 159, 160, 161, 162, 163, 164, 165, 166, 167, 168, 169, 170, 171, 172, 173, 174, 175, 176, 177, 178, 179, 180, 181, 182, 183, 184, 185, 186, 187, 188, 189, 190, 191, 192, 193, 194, 195, 196, 197, 198] rfl (by decide +kernel)
set_option maxRecDepth 100000 in
theorem gX12_halve_X12_triesGroup : GoodIn wsX12_halve (wsV RX12 462 RX12 yX12_triesGroup wsX12_triesGroup) := goodIn_app (goodIn_of _ (by decide +kernel)) ggX12_halve_X12_triesGroup
set_option maxRecDepth 100000 in
theorem ggX12_halve_X12_passes : GoodIn wsX12_halve wsX12_passes := goodIn_r _ [42, 43, 44, 12, 45, 46, 33, 47, 48, 49, 50, 10, 51, 52, 1, 53, 54, 55, 56, 57, 58, 59, 60, 61, 62, 63, 64, 65, 66, 67, 68, 69, 70, 71, 72, 73, 74, 75, 76, 77, 78, 79, 80, 81, 82, 83, 84, 85, 86, 87, 88, 89, 28, 90, 91, 92, 93, 94, 95, 96, 97, 98, 99, 100, 132, 133, 134, 135, 136, 137, 138, 139, 140, 141, 142, 143, 144, 145, 146, 147, 148, 149, 150, 151, 152, 153, 154, 155, 156, 157, 158, 159, 160, 161, 162, 163, 164, 165, 166, 167, 168, 169, 170, 171, 172, 173, 174, 175, 176, 177, 178, 179, 180, 181, 182, 183, 184, 185, 186, 187, 188, 189, 190, 191, 192, 193, 194, 195, 196, 197, 198] rfl (by decide +kernel)
set_option maxRecDepth 100000 in
theorem gX12_halve_X12_passes : GoodIn wsX12_halve (wsV RX12 443 RX12 yX12_passes wsX12_passes) := goodIn_app (goodIn_of _ (by decide +kernel)) ggX12_halve_X12_passes
set_option maxRecDepth 100000 in
theorem ggX12_halve_X12_keepsTried : GoodIn wsX12_halve wsX12_keepsTried := goodIn_r _ [104, 12, 105, 33, 106, 107, 108, 109, 10, 110, 111, 112, 113, 114, 115, 116, 63, 62, 117, 118, 119, 120, 132, 133, 134, 135, 136, 137, 138, 139, 140, 141, 142, 143, 144, 145, 146, 147, 148, 149, 150, 151, 152, 153, 154, 155, 156, 157, 158, 159, 160, 161, 162, 163, 164, 165, 166, 167, 168, 169, 170, 171, 172, 173, 174, 175, 176, 177, 178, 179, 180, 181, 182, 183, 184, 185, 186, 187, 188, 189, 190, 191, 192, 193, 194, 195, 196, 197, 198] rfl (by decide +kernel)
set_option maxRecDepth 100000 in
theorem gX12_halve_X12_keepsTried : GoodIn wsX12_halve (wsV RX12 477 RX12 yX12_keepsTried wsX12_keepsTried) := goodIn_app (goodIn_of _ (by decide +kernel)) ggX12_halve_X12_keepsTried
set_option maxRecDepth 100000 in
theorem ggX12_halve_X12_halvesBy : GoodIn wsX12_halve wsX12_halvesBy := goodIn_r _ [124, 2, 4, 125, 126, 127, 128, 129, 130, 10, 131, 12, 33, 105, 3, 5, 106, 35, 36, 37, 38, 13, 39, 40, 41, 42, 43, 44, 45, 46, 47, 48, 49, 50, 51, 52, 1, 53, 54, 55, 56, 57, 58, 59, 60, 61, 62, 63, 64, 65, 66, 67, 68, 69, 70, 71, 72, 73, 74, 75, 76, 77, 78, 79, 80, 81, 82, 83, 84, 85, 86, 87, 88, 89, 28, 90, 91, 92, 93, 94, 95, 96, 97, 98, 99, 100, 107, 108, 109, 110, 111, 112, 113, 114, 115, 116, 117, 118, 119, 120, 101, 102, 103, 104, 132, 133, 134, 135, 136, 137, 138, 139, 140, 141, 142, 143, 144, 145, 146, 147, 148, 149, 150, 151, 152, 153, 154, 155, 156, 157, 158, 159, 160, 161, 162, 163, 164, 165, 166, 167, 168, 169, 170, 171, 172, 173, 174, 175, 176, 177, 178, 179, 180, 181, 182, 183, 184, 185, 186, 187, 188, 189, 190, 191, 192, 193, 194, 195, 196, 197, 198] rfl (by decide +kernel)
set_option maxRecDepth 100000 in
theorem gX12_halve_X12_halvesBy : GoodIn wsX12_halve (wsV RX12 484 RX12 yX12_halvesBy wsX12_halvesBy) := goodIn_app (goodIn_of _ (by decide +kernel)) ggX12_halve_X12_halvesBy
set_option maxRecDepth 100000 in
theorem ggX12_halves_X12_isNumber : GoodIn wsX12_halves wsX12_isNumber := goodIn_r _ [8, 9, 10, 11, 7, 12, 143, 144, 145, 146, 147, 148, 149, 150, 151, 152, 153, 154, 155, 156, 157, 158, 159, 160, 161, 162, 163, 164, 165, 166, 167, 168, 169, 170, 171, 172, 173, 174, 175, 176, 177, 178, 179, 180, 181, 182, 183, 184, 185, 186, 187, 188, 189, 190, 191, 192, 193, 194, 195, 196, 197, 198, 199, 200, 201, 202, 203, 204, 205, 206, 207, 208, 209] rfl (by decide +kernel)
set_option maxRecDepth 100000 in
theorem gX12_halves_X12_isNumber : GoodIn wsX12_halves (wsV RX12 373 RX12 yX12_isNumber wsX12_isNumber) := goodIn_app (goodIn_of _ (by decide +kernel)) ggX12_halves_X12_isNumber
set_option maxRecDepth 100000 in
theorem ggX12_halves_X12_halve : GoodIn wsX12_halves wsX12_halve := goodIn_r _ [16, 17, 18, 19, 20, 2, 21, 22, 23, 24, 7, 25, 9, 26, 27, 28, 29, 30, 31, 32, 33, 34, 35, 36, 37, 38, 39, 40, 41, 42, 43, 44, 45, 46, 47, 48, 49, 50, 51, 52, 53, 54, 55, 56, 57, 58, 59, 60, 61, 62, 63, 64, 65, 66, 67, 68, 69, 70, 71, 72, 73, 74, 75, 76, 77, 78, 79, 80, 81, 82, 83, 84, 85, 86, 87, 88, 89, 90, 91, 92, 93, 94, 95, 96, 97, 98, 99, 100, 101, 102, 103, 104, 105, 106, 107, 108, 109, 110, 111, 112, 113, 114, 115, 116, 117, 3, 1, 118, 119, 120, 121, 122, 123, 124, 125, 126, 127, 128, 129, 130, 131, 132, 133, 134, 135, 136, 137, 138, 139, 140, 141, 142, 143, 144, 145, 146, 147, 148, 149, 150, 151, 152, 153, 154, 155, 156, 157, 158, 159, 160, 161, 162, 163, 164, 165, 166, 167, 168, 169, 170, 171, 172, 173, 174, 175, 176, 177, 178, 179, 180, 181, 182, 183, 184, 185, 186, 187, 188, 189, 190, 191, 192, 193, 194, 195, 196, 197, 198, 199, 200, 201, 202, 203, 204, 205, 206, 207, 208, 209] rfl (by decide +kernel)
set_option maxRecDepth 100000 in
theorem gX12_halves_X12_halve : GoodIn wsX12_halves (wsV RX12 487 RX12 yX12_halve wsX12_halve) := goodIn_app (goodIn_of _ (by decide +kernel)) ggX12_halves_X12_halve
set_option maxRecDepth 100000 in
theorem ggX12_laysSingle_X12_laysFree : GoodIn wsX12_laysSingle wsX12_laysFree := goodIn_r _ [14, 6, 15, 16, 9, 17, 18, 19, 13, 20, 21, 108, 109, 110, 111, 112, 113, 114, 115, 116, 117, 118, 119, 120, 121, 122, 123, 124, 125, 126, 127, 128, 129, 130, 131, 132, 133, 134, 135, 136, 137, 138, 139, 140, 141, 142, 143, 144, 145, 146, 147, 148, 149, 150, 151, 152, 153, 154, 155, 156, 157, 158, 159, 160, 161, 162, 163, 164, 165, 166, 167, 168, 169, 170, 171, 172, 173, 174] rfl (by decide +kernel)
set_option maxRecDepth 100000 in
theorem gX12_laysSingle_X12_laysFree : GoodIn wsX12_laysSingle (wsV RX12 358 RX12 yX12_laysFree wsX12_laysFree) := goodIn_app (goodIn_of _ (by decide +kernel)) ggX12_laysSingle_X12_laysFree
set_option maxRecDepth 100000 in
theorem ggX12_laysSingle_X12_triesHand : GoodIn wsX12_laysSingle wsX12_triesHand := goodIn_r _ [25, 15, 26, 8, 108, 109, 110, 111, 112, 113, 114, 115, 116, 117, 118, 119, 120, 121, 122, 123, 124, 125, 126, 127, 128, 129, 130, 131, 132, 133, 134, 135, 136, 137, 138, 139, 140, 141, 142, 143, 144, 145, 146, 147, 148, 149, 150, 151, 152, 153, 154, 155, 156, 157, 158, 159, 160, 161, 162, 163, 164, 165, 166, 167, 168, 169, 170, 171, 172, 173, 174] rfl (by decide +kernel)
set_option maxRecDepth 100000 in
theorem gX12_laysSingle_X12_triesHand : GoodIn wsX12_laysSingle (wsV RX12 440 RX12 yX12_triesHand wsX12_triesHand) := goodIn_app (goodIn_of _ (by decide +kernel)) ggX12_laysSingle_X12_triesHand
set_option maxRecDepth 100000 in
theorem ggX12_laysSingle_X12_costTried : GoodIn wsX12_laysSingle wsX12_costTried := goodIn_r _ [30, 31, 15, 32, 26, 33, 34, 35, 13, 36, 37, 38, 39, 40, 41, 42, 108, 109, 110, 111, 112, 113, 114, 115, 116, 117, 118, 119, 120, 121, 122, 123, 124, 125, 126, 127, 128, 129, 130, 131, 132, 133, 134, 135, 136, 137, 138, 139, 140, 141, 142, 143, 144, 145, 146, 147, 148, 149, 150, 151, 152, 153, 154, 155, 156, 157, 158, 159, 160, 161, 162, 163, 164, 165, 166, 167, 168, 169, 170, 171, 172, 173, 174] rfl (by decide +kernel)
set_option maxRecDepth 100000 in
theorem gX12_laysSingle_X12_costTried : GoodIn wsX12_laysSingle (wsV RX12 449 RX12 yX12_costTried wsX12_costTried) := goodIn_app (goodIn_of _ (by decide +kernel)) ggX12_laysSingle_X12_costTried
set_option maxRecDepth 100000 in
theorem ggX12_laysSingle_X12_triesGroup : GoodIn wsX12_laysSingle wsX12_triesGroup := goodIn_r _ [46, 15, 26, 16, 108, 109, 110, 111, 112, 113, 114, 115, 116, 117, 118, 119, 120, 121, 122, 123, 124, 125, 126, 127, 128, 129, 130, 131, 132, 133, 134, 135, 136, 137, 138, 139, 140, 141, 142, 143, 144, 145, 146, 147, 148, 149, 150, 151, 152, 153, 154, 155, 156, 157, 158, 159, 160, 161, 162, 163, 164, 165, 166, 167, 168, 169, 170, 171, 172, 173, 174] rfl (by decide +kernel)
set_option maxRecDepth 100000 in
theorem gX12_laysSingle_X12_triesGroup : GoodIn wsX12_laysSingle (wsV RX12 462 RX12 yX12_triesGroup wsX12_triesGroup) := goodIn_app (goodIn_of _ (by decide +kernel)) ggX12_laysSingle_X12_triesGroup
set_option maxRecDepth 100000 in
theorem ggX12_laysSingle_X12_passes : GoodIn wsX12_laysSingle wsX12_passes := goodIn_r _ [50, 51, 52, 15, 53, 54, 26, 55, 56, 57, 58, 13, 59, 60, 1, 61, 62, 63, 64, 65, 66, 67, 68, 69, 38, 37, 70, 71, 72, 73, 74, 75, 76, 77, 78, 79, 80, 81, 82, 83, 84, 85, 86, 87, 88, 89, 90, 91, 92, 93, 94, 95, 96, 97, 98, 99, 100, 101, 102, 103, 104, 105, 106, 107, 108, 109, 110, 111, 112, 113, 114, 115, 116, 117, 118, 119, 120, 121, 122, 123, 124, 125, 126, 127, 128, 129, 130, 131, 132, 133, 134, 135, 136, 137, 138, 139, 140, 141, 142, 143, 144, 145, 146, 147, 148, 149, 150, 151, 152, 153, 154, 155, 156, 157, 158, 159, 160, 161, 162, 163, 164, 165, 166, 167, 168, 169, 170, 171, 172, 173, 174] rfl (by decide +kernel)
set_option maxRecDepth 100000 in
theorem gX12_laysSingle_X12_passes : GoodIn wsX12_laysSingle (wsV RX12 443 RX12 yX12_passes wsX12_passes) := goodIn_app (goodIn_of _ (by decide +kernel)) ggX12_laysSingle_X12_passes
set_option maxRecDepth 100000 in
theorem ggX12_single_X12_isThere : GoodIn wsX12_single wsX12_isThere := goodIn_r _ [10, 11, 12, 121, 122, 123, 124, 125, 126, 127, 128, 129, 130, 131, 132, 133, 134, 135, 136, 137, 138, 139, 140, 141, 142, 143, 144, 145, 146, 147, 148, 149, 150, 151, 152, 153, 154, 155, 156, 157, 158, 159, 160, 161, 162, 163, 164, 165, 166, 167, 168, 169, 170, 171, 172, 173, 174, 175, 176, 177, 178, 179, 180, 181, 182, 183, 184, 185, 186, 187] rfl (by decide +kernel)
set_option maxRecDepth 100000 in
theorem gX12_single_X12_isThere : GoodIn wsX12_single (wsV RX12 446 RX12 yX12_isThere wsX12_isThere) := goodIn_app (goodIn_of _ (by decide +kernel)) ggX12_single_X12_isThere
set_option maxRecDepth 100000 in
theorem ggX12_single_X12_isIn : GoodIn wsX12_single wsX12_isIn := goodIn_r _ [15] rfl (by decide +kernel)
set_option maxRecDepth 100000 in
theorem gX12_single_X12_isIn : GoodIn wsX12_single (va_wsS RX12 263 yX12_isIn wsX12_isIn) := goodIn_app (goodIn_of _ (by decide +kernel)) ggX12_single_X12_isIn
set_option maxRecDepth 100000 in
theorem ggX12_single_X12_laysSingle : GoodIn wsX12_single wsX12_laysSingle := goodIn_r _ [19, 20, 2, 3, 4, 5, 21, 22, 23, 24, 25, 26, 27, 9, 28, 12, 29, 30, 31, 32, 33, 34, 35, 36, 37, 38, 39, 40, 41, 42, 43, 44, 45, 46, 47, 48, 49, 50, 51, 52, 53, 54, 55, 56, 57, 58, 59, 60, 61, 62, 63, 64, 65, 66, 67, 68, 69, 70, 71, 72, 73, 74, 75, 76, 77, 78, 79, 80, 81, 82, 83, 84, 85, 86, 87, 88, 89, 90, 91, 92, 93, 94, 95, 96, 97, 98, 99, 100, 101, 102, 103, 104, 105, 106, 107, 108, 109, 110, 111, 112, 113, 114, 115, 116, 117, 118, 119, 120, 121, 122, 123, 124, 125, 126, 127, 128, 129, 130, 131, 132, 133, 134, 135, 136, 137, 138, 139, 140, 141, 142, 143, 144, 145, 146, 147, 148, 149, 150, 151, 152, 153, 154, 155, 156, 157, 158, 159, 160, 161, 162, 163, 164, 165, 166, 167, 168, 169, 170, 171, 172, 173, 174, 175, 176, 177, 178, 179, 180, 181, 182, 183, 184, 185, 186, 187] rfl (by decide +kernel)
set_option maxRecDepth 100000 in
theorem gX12_single_X12_laysSingle : GoodIn wsX12_single (wsV RX12 492 RX12 yX12_laysSingle wsX12_laysSingle) := goodIn_app (goodIn_of _ (by decide +kernel)) ggX12_single_X12_laysSingle
set_option maxRecDepth 100000 in
theorem ggX12_canTake_X12_canSearch : GoodIn wsX12_canTake wsX12_canSearch := goodIn_r _ [10, 11, 1, 12, 13, 14, 15, 16, 9, 17, 18, 19, 20, 21, 22, 23, 24, 160, 161, 162, 163, 164, 165, 166, 167, 168, 169, 170, 171, 172, 173, 174, 175, 176, 177, 178, 179, 180, 181, 182, 183, 184, 185, 186, 187, 188, 189, 190, 191, 192, 193, 194, 195, 196, 197, 198, 199, 200, 201, 202, 203, 204, 205, 206, 207, 208, 209, 210, 211, 212, 213, 214, 215, 216, 217, 218, 219, 220, 221, 222, 223, 224, 225, 226] rfl (by decide +kernel)
set_option maxRecDepth 100000 in
theorem gX12_canTake_X12_canSearch : GoodIn wsX12_canTake (wsV RX12 471 RX12 yX12_canSearch wsX12_canSearch) := goodIn_app (goodIn_of _ (by decide +kernel)) ggX12_canTake_X12_canSearch
set_option maxRecDepth 100000 in
theorem ggX12_canTake_X12_cheapestChoice : GoodIn wsX12_canTake wsX12_cheapestChoice := goodIn_r _ [28, 29, 30, 31, 9, 32, 13, 33, 34, 35, 36, 37, 19, 38, 39, 40, 41, 1, 2, 42, 43, 44, 45, 46, 18, 47, 48, 49, 50, 51, 52, 53, 54, 55, 56, 57, 58, 59, 60, 61, 62, 63, 64, 65, 66, 67, 68, 69, 70, 71, 72, 73, 74, 75, 76, 11, 77, 78, 79, 80, 81, 82, 83, 84, 85, 86, 87, 88, 89, 90, 91, 92, 93, 94, 95, 96, 97, 98, 99, 100, 101, 102, 103, 104, 105, 106, 107, 108, 109, 110, 111, 112, 113, 114, 115, 116, 117, 118, 119, 120, 121, 122, 123, 160, 161, 162, 163, 164, 165, 166, 167, 168, 169, 170, 171, 172, 173, 174, 175, 176, 177, 178, 179, 180, 181, 182, 183, 184, 185, 186, 187, 188, 189, 190, 191, 192, 193, 194, 195, 196, 197, 198, 199, 200, 201, 202, 203, 204, 205, 206, 207, 208, 209, 210, 211, 212, 213, 214, 215, 216, 217, 218, 219, 220, 221, 222, 223, 224, 225, 226] rfl (by decide +kernel)
set_option maxRecDepth 100000 in
theorem gX12_canTake_X12_cheapestChoice : GoodIn wsX12_canTake (wsV RX12 474 RX12 yX12_cheapestChoice wsX12_cheapestChoice) := goodIn_app (goodIn_of _ (by decide +kernel)) ggX12_canTake_X12_cheapestChoice
set_option maxRecDepth 100000 in
theorem ggX12_canTake_X12_triesChoice : GoodIn wsX12_canTake wsX12_triesChoice := goodIn_r _ [37, 13, 19, 33, 38, 39, 40, 9, 41, 1, 2, 42, 43, 44, 45, 46, 18, 160, 161, 162, 163, 164, 165, 166, 167, 168, 169, 170, 171, 172, 173, 174, 175, 176, 177, 178, 179, 180, 181, 182, 183, 184, 185, 186, 187, 188, 189, 190, 191, 192, 193, 194, 195, 196, 197, 198, 199, 200, 201, 202, 203, 204, 205, 206, 207, 208, 209, 210, 211, 212, 213, 214, 215, 216, 217, 218, 219, 220, 221, 222, 223, 224, 225, 226] rfl (by decide +kernel)
set_option maxRecDepth 100000 in
theorem gX12_canTake_X12_triesChoice : GoodIn wsX12_canTake (wsV RX12 468 RX12 yX12_triesChoice wsX12_triesChoice) := goodIn_app (goodIn_of _ (by decide +kernel)) ggX12_canTake_X12_triesChoice
set_option maxRecDepth 100000 in
theorem ggX12_canTake_X12_halve : GoodIn wsX12_canTake wsX12_halve := goodIn_r _ [127, 11, 13, 19, 128, 129, 33, 14, 15, 16, 9, 17, 1, 18, 20, 21, 22, 23, 24, 130, 131, 132, 133, 12, 134, 135, 136, 137, 112, 38, 39, 40, 41, 2, 42, 43, 44, 45, 46, 63, 64, 65, 66, 67, 68, 69, 70, 71, 72, 73, 74, 75, 76, 77, 78, 79, 80, 81, 82, 83, 84, 85, 58, 57, 86, 87, 88, 89, 90, 91, 92, 93, 94, 95, 96, 97, 98, 99, 100, 101, 102, 103, 104, 105, 106, 107, 108, 109, 110, 111, 113, 114, 115, 116, 117, 118, 119, 120, 121, 122, 123, 138, 139, 140, 141, 3, 142, 47, 48, 49, 50, 51, 52, 53, 54, 55, 56, 59, 60, 61, 62, 143, 144, 145, 146, 147, 148, 149, 150, 151, 152, 153, 160, 161, 162, 163, 164, 165, 166, 167, 168, 169, 170, 171, 172, 173, 174, 175, 176, 177, 178, 179, 180, 181, 182, 183, 184, 185, 186, 187, 188, 189, 190, 191, 192, 193, 194, 195, 196, 197, 198, 199, 200, 201, 202, 203, 204, 205, 206, 207, 208, 209, 210, 211, 212, 213, 214, 215, 216, 217, 218, 219, 220, 221, 222, 223, 224, 225, 226] rfl (by decide +kernel)
set_option maxRecDepth 100000 in
theorem gX12_canTake_X12_halve : GoodIn wsX12_canTake (wsV RX12 487 RX12 yX12_halve wsX12_halve) := goodIn_app (goodIn_of _ (by decide +kernel)) ggX12_canTake_X12_halve
set_option maxRecDepth 100000 in
theorem ggX12_canTake_X12_isThere : GoodIn wsX12_canTake wsX12_isThere := goodIn_r _ [133, 12, 1, 160, 161, 162, 163, 164, 165, 166, 167, 168, 169, 170, 171, 172, 173, 174, 175, 176, 177, 178, 179, 180, 181, 182, 183, 184, 185, 186, 187, 188, 189, 190, 191, 192, 193, 194, 195, 196, 197, 198, 199, 200, 201, 202, 203, 204, 205, 206, 207, 208, 209, 210, 211, 212, 213, 214, 215, 216, 217, 218, 219, 220, 221, 222, 223, 224, 225, 226] rfl (by decide +kernel)
set_option maxRecDepth 100000 in
theorem gX12_canTake_X12_isThere : GoodIn wsX12_canTake (wsV RX12 446 RX12 yX12_isThere wsX12_isThere) := goodIn_app (goodIn_of _ (by decide +kernel)) ggX12_canTake_X12_isThere
set_option maxRecDepth 100000 in
theorem ggX12_canTake_X12_laysSingle : GoodIn wsX12_canTake wsX12_laysSingle := goodIn_r _ [157, 11, 158, 159, 4, 5, 13, 33, 42, 19, 14, 15, 16, 9, 17, 1, 18, 20, 21, 22, 23, 24, 38, 39, 40, 41, 2, 47, 48, 49, 50, 51, 52, 53, 54, 55, 56, 57, 58, 59, 60, 61, 62, 43, 44, 45, 46, 63, 64, 65, 66, 67, 68, 69, 70, 71, 72, 73, 74, 75, 76, 77, 78, 79, 80, 81, 82, 83, 84, 85, 86, 87, 88, 89, 90, 91, 92, 93, 94, 95, 96, 97, 98, 99, 100, 101, 102, 103, 104, 105, 106, 107, 108, 109, 110, 111, 112, 113, 114, 115, 116, 117, 118, 119, 120, 121, 122, 123, 160, 161, 162, 163, 164, 165, 166, 167, 168, 169, 170, 171, 172, 173, 174, 175, 176, 177, 178, 179, 180, 181, 182, 183, 184, 185, 186, 187, 188, 189, 190, 191, 192, 193, 194, 195, 196, 197, 198, 199, 200, 201, 202, 203, 204, 205, 206, 207, 208, 209, 210, 211, 212, 213, 214, 215, 216, 217, 218, 219, 220, 221, 222, 223, 224, 225, 226] rfl (by decide +kernel)
set_option maxRecDepth 100000 in
theorem gX12_canTake_X12_laysSingle : GoodIn wsX12_canTake (wsV RX12 492 RX12 yX12_laysSingle wsX12_laysSingle) := goodIn_app (goodIn_of _ (by decide +kernel)) ggX12_canTake_X12_laysSingle
set_option maxRecDepth 100000 in
theorem ggX12_canTake_X12_triesHand : GoodIn wsX12_canTake wsX12_triesHand := goodIn_r _ [41, 1, 2, 42, 160, 161, 162, 163, 164, 165, 166, 167, 168, 169, 170, 171, 172, 173, 174, 175, 176, 177, 178, 179, 180, 181, 182, 183, 184, 185, 186, 187, 188, 189, 190, 191, 192, 193, 194, 195, 196, 197, 198, 199, 200, 201, 202, 203, 204, 205, 206, 207, 208, 209, 210, 211, 212, 213, 214, 215, 216, 217, 218, 219, 220, 221, 222, 223, 224, 225, 226] rfl (by decide +kernel)
set_option maxRecDepth 100000 in
theorem gX12_canTake_X12_triesHand : GoodIn wsX12_canTake (wsV RX12 440 RX12 yX12_triesHand wsX12_triesHand) := goodIn_app (goodIn_of _ (by decide +kernel)) ggX12_canTake_X12_triesHand
set_option maxRecDepth 100000 in
theorem ggX12_canTake_X12_triesGroup : GoodIn wsX12_canTake wsX12_triesGroup := goodIn_r _ [46, 1, 2, 18, 160, 161, 162, 163, 164, 165, 166, 167, 168, 169, 170, 171, 172, 173, 174, 175, 176, 177, 178, 179, 180, 181, 182, 183, 184, 185, 186, 187, 188, 189, 190, 191, 192, 193, 194, 195, 196, 197, 198, 199, 200, 201, 202, 203, 204, 205, 206, 207, 208, 209, 210, 211, 212, 213, 214, 215, 216, 217, 218, 219, 220, 221, 222, 223, 224, 225, 226] rfl (by decide +kernel)
set_option maxRecDepth 100000 in
theorem gX12_canTake_X12_triesGroup : GoodIn wsX12_canTake (wsV RX12 462 RX12 yX12_triesGroup wsX12_triesGroup) := goodIn_app (goodIn_of _ (by decide +kernel)) ggX12_canTake_X12_triesGroup
set_option maxRecDepth 100000 in
theorem ggX12_take_X12_canTake : GoodIn wsX12_take wsX12_canTake := goodIn_r _ [5, 6, 7, 8, 9, 10, 11, 12, 13, 4, 14, 15, 16, 17, 18, 19, 20, 21, 22, 23, 24, 25, 26, 27, 28, 29, 30, 31, 32, 33, 34, 35, 36, 37, 38, 39, 40, 41, 42, 43, 44, 45, 46, 47, 48, 49, 50, 51, 52, 53, 54, 55, 56, 57, 58, 59, 60, 61, 62, 63, 64, 65, 66, 67, 68, 69, 70, 71, 72, 73, 74, 75, 76, 77, 78, 79, 80, 81, 82, 83, 84, 85, 86, 87, 88, 89, 90, 91, 92, 93, 94, 95, 96, 97, 98, 99, 100, 101, 102, 103, 104, 105, 106, 107, 108, 109, 110, 111, 112, 113, 114, 115, 116, 117, 118, 119, 120, 121, 122, 123, 124, 125, 126, 127, 128, 129, 130, 131, 132, 133, 134, 135, 136, 137, 138, 139, 140, 141, 142, 143, 144, 145, 146, 147, 148, 149, 150, 151, 152, 153, 154, 155, 156, 157, 158, 159, 160, 161, 162, 163, 173, 174, 175, 176, 177, 178, 179, 180, 181, 182, 183, 184, 185, 186, 187, 188, 189, 190, 191, 192, 193, 194, 195, 196, 197, 198, 199, 200, 201, 202, 203, 204, 205, 206, 207, 208, 209, 210, 211, 212, 213, 214, 215, 216, 217, 218, 219, 220, 221, 222, 223, 224, 225, 226, 227, 228, 229, 230, 231, 232, 233, 234, 235, 236, 237, 238, 239] rfl (by decide +kernel)
set_option maxRecDepth 100000 in
theorem gX12_take_X12_canTake : GoodIn wsX12_take (wsV RX12 495 RX12 yX12_canTake wsX12_canTake) := goodIn_app (goodIn_of _ (by decide +kernel)) ggX12_take_X12_canTake
set_option maxRecDepth 100000 in
theorem ggX12_take_X12_refuses : GoodIn wsX12_take wsX12_refuses := goodIn_r _ [167, 168, 173, 174, 175, 176, 177, 178, 179, 180, 181, 182, 183, 184, 185, 186, 187, 188, 189, 190, 191, 192, 193, 194, 195, 196, 197, 198, 199, 200, 201, 202, 203, 204, 205, 206, 207, 208, 209, 210, 211, 212, 213, 214, 215, 216, 217, 218, 219, 220, 221, 222, 223, 224, 225, 226, 227, 228, 229, 230, 231, 232, 233, 234, 235, 236, 237, 238, 239] rfl (by decide +kernel)
set_option maxRecDepth 100000 in
theorem gX12_take_X12_refuses : GoodIn wsX12_take (wsV RX12 216 RX12 yX12_refuses wsX12_refuses) := goodIn_app (goodIn_of _ (by decide +kernel)) ggX12_take_X12_refuses
set_option maxRecDepth 100000 in
theorem ggX12_take_X12_takesTried : GoodIn wsX12_take wsX12_takesTried := goodIn_r _ [172, 6, 46, 7, 173, 174, 175, 176, 177, 178, 179, 180, 181, 182, 183, 184, 185, 186, 187, 188, 189, 190, 191, 192, 193, 194, 195, 196, 197, 198, 199, 200, 201, 202, 203, 204, 205, 206, 207, 208, 209, 210, 211, 212, 213, 214, 215, 216, 217, 218, 219, 220, 221, 222, 223, 224, 225, 226, 227, 228, 229, 230, 231, 232, 233, 234, 235, 236, 237, 238, 239] rfl (by decide +kernel)
set_option maxRecDepth 100000 in
theorem gX12_take_X12_takesTried : GoodIn wsX12_take (wsV RX12 498 RX12 yX12_takesTried wsX12_takesTried) := goodIn_app (goodIn_of _ (by decide +kernel)) ggX12_take_X12_takesTried
set_option maxRecDepth 100000 in
theorem ggX12_take_X12_costTried : GoodIn wsX12_take wsX12_costTried := goodIn_r _ [54, 55, 6, 56, 7, 57, 58, 59, 4, 60, 61, 62, 63, 64, 65, 66, 173, 174, 175, 176, 177, 178, 179, 180, 181, 182, 183, 184, 185, 186, 187, 188, 189, 190, 191, 192, 193, 194, 195, 196, 197, 198, 199, 200, 201, 202, 203, 204, 205, 206, 207, 208, 209, 210, 211, 212, 213, 214, 215, 216, 217, 218, 219, 220, 221, 222, 223, 224, 225, 226, 227, 228, 229, 230, 231, 232, 233, 234, 235, 236, 237, 238, 239] rfl (by decide +kernel)
set_option maxRecDepth 100000 in
theorem gX12_take_X12_costTried : GoodIn wsX12_take (wsV RX12 449 RX12 yX12_costTried wsX12_costTried) := goodIn_app (goodIn_of _ (by decide +kernel)) ggX12_take_X12_costTried
set_option maxRecDepth 100000 in
theorem ggX12_laysFront_X12_allChoices : GoodIn wsX12_laysFront wsX12_allChoices := goodIn_r _ [10, 11, 12, 111, 112, 113, 114, 115, 116, 117, 118, 119, 120, 121, 122, 123, 124, 125, 126, 127, 128, 129, 130, 131, 132, 133, 134, 135, 136, 137, 138, 139, 140, 141, 142, 143, 144, 145, 146, 147, 148, 149, 150, 151, 152, 153, 154, 155, 156, 157, 158, 159, 160, 161, 162, 163, 164, 165, 166, 167, 168, 169, 170, 171, 172, 173, 174, 175, 176, 177] rfl (by decide +kernel)
set_option maxRecDepth 100000 in
theorem gX12_laysFront_X12_allChoices : GoodIn wsX12_laysFront (wsV RX12 465 RX12 yX12_allChoices wsX12_allChoices) := goodIn_app (goodIn_of _ (by decide +kernel)) ggX12_laysFront_X12_allChoices
set_option maxRecDepth 100000 in
theorem ggX12_laysFront_X12_triesChoice : GoodIn wsX12_laysFront wsX12_triesChoice := goodIn_r _ [16, 11, 17, 12, 18, 19, 20, 9, 21, 22, 23, 24, 25, 26, 27, 28, 29, 111, 112, 113, 114, 115, 116, 117, 118, 119, 120, 121, 122, 123, 124, 125, 126, 127, 128, 129, 130, 131, 132, 133, 134, 135, 136, 137, 138, 139, 140, 141, 142, 143, 144, 145, 146, 147, 148, 149, 150, 151, 152, 153, 154, 155, 156, 157, 158, 159, 160, 161, 162, 163, 164, 165, 166, 167, 168, 169, 170, 171, 172, 173, 174, 175, 176, 177] rfl (by decide +kernel)
set_option maxRecDepth 100000 in
theorem gX12_laysFront_X12_triesChoice : GoodIn wsX12_laysFront (wsV RX12 468 RX12 yX12_triesChoice wsX12_triesChoice) := goodIn_app (goodIn_of _ (by decide +kernel)) ggX12_laysFront_X12_triesChoice
set_option maxRecDepth 100000 in
theorem ggX12_laysFront_X12_passes : GoodIn wsX12_laysFront wsX12_passes := goodIn_r _ [33, 34, 35, 22, 2, 36, 23, 37, 38, 39, 40, 9, 41, 42, 43, 44, 45, 46, 47, 48, 49, 50, 51, 52, 53, 54, 55, 56, 57, 58, 59, 60, 61, 62, 63, 64, 65, 66, 67, 68, 69, 70, 71, 72, 73, 74, 75, 76, 77, 78, 79, 80, 81, 82, 83, 84, 85, 86, 87, 88, 89, 90, 91, 92, 111, 112, 113, 114, 115, 116, 117, 118, 119, 120, 121, 122, 123, 124, 125, 126, 127, 128, 129, 130, 131, 132, 133, 134, 135, 136, 137, 138, 139, 140, 141, 142, 143, 144, 145, 146, 147, 148, 149, 150, 151, 152, 153, 154, 155, 156, 157, 158, 159, 160, 161, 162, 163, 164, 165, 166, 167, 168, 169, 170, 171, 172, 173, 174, 175, 176, 177] rfl (by decide +kernel)
set_option maxRecDepth 100000 in
theorem gX12_laysFront_X12_passes : GoodIn wsX12_laysFront (wsV RX12 443 RX12 yX12_passes wsX12_passes) := goodIn_app (goodIn_of _ (by decide +kernel)) ggX12_laysFront_X12_passes
set_option maxRecDepth 100000 in
theorem ggX12_laysFront_X12_costTried : GoodIn wsX12_laysFront wsX12_costTried := goodIn_r _ [96, 97, 22, 98, 23, 99, 100, 101, 9, 102, 54, 53, 103, 104, 105, 106, 111, 112, 113, 114, 115, 116, 117, 118, 119, 120, 121, 122, 123, 124, 125, 126, 127, 128, 129, 130, 131, 132, 133, 134, 135, 136, 137, 138, 139, 140, 141, 142, 143, 144, 145, 146, 147, 148, 149, 150, 151, 152, 153, 154, 155, 156, 157, 158, 159, 160, 161, 162, 163, 164, 165, 166, 167, 168, 169, 170, 171, 172, 173, 174, 175, 176, 177] rfl (by decide +kernel)
set_option maxRecDepth 100000 in
theorem gX12_laysFront_X12_costTried : GoodIn wsX12_laysFront (wsV RX12 449 RX12 yX12_costTried wsX12_costTried) := goodIn_app (goodIn_of _ (by decide +kernel)) ggX12_laysFront_X12_costTried
set_option maxRecDepth 100000 in
theorem ggX12_laysFront_X12_laysCouple : GoodIn wsX12_laysFront wsX12_laysCouple := goodIn_r _ [110, 1, 4, 3, 5, 111, 112, 113, 114, 115, 116, 117, 118, 119, 120, 121, 122, 123, 124, 125, 126, 127, 128, 129, 130, 131, 132, 133, 134, 135, 136, 137, 138, 139, 140, 141, 142, 143, 144, 145, 146, 147, 148, 149, 150, 151, 152, 153, 154, 155, 156, 157, 158, 159, 160, 161, 162, 163, 164, 165, 166, 167, 168, 169, 170, 171, 172, 173, 174, 175, 176, 177] rfl (by decide +kernel)
set_option maxRecDepth 100000 in
theorem gX12_laysFront_X12_laysCouple : GoodIn wsX12_laysFront (wsV RX12 501 RX12 yX12_laysCouple wsX12_laysCouple) := goodIn_app (goodIn_of _ (by decide +kernel)) ggX12_laysFront_X12_laysCouple
set_option maxRecDepth 100000 in
theorem ggX12_front_X12_isAnswer : GoodIn wsX12_front wsX12_isAnswer := goodIn_r _ [11, 12, 13, 14, 15, 10, 16, 17, 18, 19, 20, 141, 142, 143, 144, 145, 146, 147, 148, 149, 150, 151, 152, 153, 154, 155, 156, 157, 158, 159, 160, 161, 162, 163, 164, 165, 166, 167, 168, 169, 170, 171, 172, 173, 174, 175, 176, 177, 178, 179, 180, 181, 182, 183, 184, 185, 186, 187, 188, 189, 190, 191, 192, 193, 194, 195, 196, 197, 198, 199, 200, 201, 202, 203, 204, 205, 206, 207] rfl (by decide +kernel)
set_option maxRecDepth 100000 in
theorem gX12_front_X12_isAnswer : GoodIn wsX12_front (wsV RX12 455 RX12 yX12_isAnswer wsX12_isAnswer) := goodIn_app (goodIn_of _ (by decide +kernel)) ggX12_front_X12_isAnswer
set_option maxRecDepth 100000 in
theorem ggX12_front_X12_canSearch : GoodIn wsX12_front wsX12_canSearch := goodIn_r _ [24, 25, 17, 26, 27, 28, 29, 30, 10, 31, 32, 33, 34, 35, 36, 37, 38, 141, 142, 143, 144, 145, 146, 147, 148, 149, 150, 151, 152, 153, 154, 155, 156, 157, 158, 159, 160, 161, 162, 163, 164, 165, 166, 167, 168, 169, 170, 171, 172, 173, 174, 175, 176, 177, 178, 179, 180, 181, 182, 183, 184, 185, 186, 187, 188, 189, 190, 191, 192, 193, 194, 195, 196, 197, 198, 199, 200, 201, 202, 203, 204, 205, 206, 207] rfl (by decide +kernel)
set_option maxRecDepth 100000 in
theorem gX12_front_X12_canSearch : GoodIn wsX12_front (wsV RX12 471 RX12 yX12_canSearch wsX12_canSearch) := goodIn_app (goodIn_of _ (by decide +kernel)) ggX12_front_X12_canSearch
set_option maxRecDepth 100000 in
theorem ggX12_front_X12_isIn : GoodIn wsX12_front wsX12_isIn := goodIn_r _ [20] rfl (by decide +kernel)
set_option maxRecDepth 100000 in
theorem gX12_front_X12_isIn : GoodIn wsX12_front (va_wsS RX12 263 yX12_isIn wsX12_isIn) := goodIn_app (goodIn_of _ (by decide +kernel)) ggX12_front_X12_isIn
set_option maxRecDepth 100000 in
theorem ggX12_front_X12_laysFront : GoodIn wsX12_front wsX12_laysFront := goodIn_r _ [42, 3, 43, 5, 4, 6, 44, 45, 46, 10, 47, 27, 48, 49, 50, 51, 52, 33, 53, 54, 55, 56, 17, 57, 58, 59, 60, 61, 62, 32, 63, 64, 65, 66, 67, 68, 69, 12, 70, 71, 72, 73, 74, 25, 75, 76, 77, 78, 79, 80, 81, 82, 83, 84, 85, 86, 87, 88, 89, 90, 91, 92, 93, 94, 95, 1, 96, 97, 98, 99, 100, 101, 102, 103, 104, 105, 106, 107, 108, 109, 110, 111, 112, 113, 114, 115, 116, 117, 118, 119, 120, 121, 122, 123, 124, 125, 126, 127, 128, 129, 130, 131, 132, 133, 134, 135, 136, 137, 138, 139, 140, 141, 142, 143, 144, 145, 146, 147, 148, 149, 150, 151, 152, 153, 154, 155, 156, 157, 158, 159, 160, 161, 162, 163, 164, 165, 166, 167, 168, 169, 170, 171, 172, 173, 174, 175, 176, 177, 178, 179, 180, 181, 182, 183, 184, 185, 186, 187, 188, 189, 190, 191, 192, 193, 194, 195, 196, 197, 198, 199, 200, 201, 202, 203, 204, 205, 206, 207] rfl (by decide +kernel)
set_option maxRecDepth 100000 in
theorem gX12_front_X12_laysFront : GoodIn wsX12_front (wsV RX12 505 RX12 yX12_laysFront wsX12_laysFront) := goodIn_app (goodIn_of _ (by decide +kernel)) ggX12_front_X12_laysFront
set_option maxRecDepth 100000 in
theorem ggX12_least_X12_isAnswer : GoodIn wsX12_least wsX12_isAnswer := goodIn_r _ [7, 8, 9, 10, 11, 6, 12, 13, 14, 15, 16, 129, 130, 131, 132, 133, 134, 135, 136, 137, 138, 139, 140, 141, 142, 143, 144, 145, 146, 147, 148, 149, 150, 151, 152, 153, 154, 155, 156, 157, 158, 159, 160, 161, 162, 163, 164, 165, 166, 167, 168, 169, 170, 171, 172, 173, 174, 175, 176, 177, 178, 179, 180, 181, 182, 183, 184, 185, 186, 187, 188, 189, 190, 191, 192, 193, 194, 195] rfl (by decide +kernel)
set_option maxRecDepth 100000 in
theorem gX12_least_X12_isAnswer : GoodIn wsX12_least (wsV RX12 455 RX12 yX12_isAnswer wsX12_isAnswer) := goodIn_app (goodIn_of _ (by decide +kernel)) ggX12_least_X12_isAnswer
set_option maxRecDepth 100000 in
theorem ggX12_least_X12_canSearch : GoodIn wsX12_least wsX12_canSearch := goodIn_r _ [20, 21, 13, 22, 23, 24, 25, 26, 6, 27, 28, 29, 30, 31, 32, 33, 34, 129, 130, 131, 132, 133, 134, 135, 136, 137, 138, 139, 140, 141, 142, 143, 144, 145, 146, 147, 148, 149, 150, 151, 152, 153, 154, 155, 156, 157, 158, 159, 160, 161, 162, 163, 164, 165, 166, 167, 168, 169, 170, 171, 172, 173, 174, 175, 176, 177, 178, 179, 180, 181, 182, 183, 184, 185, 186, 187, 188, 189, 190, 191, 192, 193, 194, 195] rfl (by decide +kernel)
set_option maxRecDepth 100000 in
theorem gX12_least_X12_canSearch : GoodIn wsX12_least (wsV RX12 471 RX12 yX12_canSearch wsX12_canSearch) := goodIn_app (goodIn_of _ (by decide +kernel)) ggX12_least_X12_canSearch
set_option maxRecDepth 100000 in
theorem ggX12_least_X12_allChoices : GoodIn wsX12_least wsX12_allChoices := goodIn_r _ [38, 23, 39, 129, 130, 131, 132, 133, 134, 135, 136, 137, 138, 139, 140, 141, 142, 143, 144, 145, 146, 147, 148, 149, 150, 151, 152, 153, 154, 155, 156, 157, 158, 159, 160, 161, 162, 163, 164, 165, 166, 167, 168, 169, 170, 171, 172, 173, 174, 175, 176, 177, 178, 179, 180, 181, 182, 183, 184, 185, 186, 187, 188, 189, 190, 191, 192, 193, 194, 195] rfl (by decide +kernel)
set_option maxRecDepth 100000 in
theorem gX12_least_X12_allChoices : GoodIn wsX12_least (wsV RX12 465 RX12 yX12_allChoices wsX12_allChoices) := goodIn_app (goodIn_of _ (by decide +kernel)) ggX12_least_X12_allChoices
set_option maxRecDepth 100000 in
theorem ggX12_least_X12_triesChoice : GoodIn wsX12_least wsX12_triesChoice := goodIn_r _ [43, 23, 29, 39, 44, 45, 46, 6, 47, 13, 48, 49, 50, 51, 52, 53, 28, 129, 130, 131, 132, 133, 134, 135, 136, 137, 138, 139, 140, 141, 142, 143, 144, 145, 146, 147, 148, 149, 150, 151, 152, 153, 154, 155, 156, 157, 158, 159, 160, 161, 162, 163, 164, 165, 166, 167, 168, 169, 170, 171, 172, 173, 174, 175, 176, 177, 178, 179, 180, 181, 182, 183, 184, 185, 186, 187, 188, 189, 190, 191, 192, 193, 194, 195] rfl (by decide +kernel)
set_option maxRecDepth 100000 in
theorem gX12_least_X12_triesChoice : GoodIn wsX12_least (wsV RX12 468 RX12 yX12_triesChoice wsX12_triesChoice) := goodIn_app (goodIn_of _ (by decide +kernel)) ggX12_least_X12_triesChoice
set_option maxRecDepth 100000 in
theorem ggX12_least_X12_costTried : GoodIn wsX12_least wsX12_costTried := goodIn_r _ [57, 58, 13, 59, 48, 60, 61, 62, 6, 63, 64, 65, 66, 67, 68, 69, 129, 130, 131, 132, 133, 134, 135, 136, 137, 138, 139, 140, 141, 142, 143, 144, 145, 146, 147, 148, 149, 150, 151, 152, 153, 154, 155, 156, 157, 158, 159, 160, 161, 162, 163, 164, 165, 166, 167, 168, 169, 170, 171, 172, 173, 174, 175, 176, 177, 178, 179, 180, 181, 182, 183, 184, 185, 186, 187, 188, 189, 190, 191, 192, 193, 194, 195] rfl (by decide +kernel)
set_option maxRecDepth 100000 in
theorem gX12_least_X12_costTried : GoodIn wsX12_least (wsV RX12 449 RX12 yX12_costTried wsX12_costTried) := goodIn_app (goodIn_of _ (by decide +kernel)) ggX12_least_X12_costTried
