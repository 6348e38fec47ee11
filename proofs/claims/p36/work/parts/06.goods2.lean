set_option maxRecDepth 100000 in
theorem ggX12_least_X12_passes : GoodIn wsX12_least wsX12_passes := goodIn_r _ [73, 74, 75, 13, 2, 76, 48, 8, 77, 78, 79, 6, 80, 81, 21, 82, 83, 84, 85, 86, 87, 88, 89, 90, 65, 64, 91, 92, 93, 94, 95, 96, 97, 98, 99, 100, 101, 102, 103, 104, 105, 106, 107, 108, 109, 110, 111, 112, 113, 114, 115, 116, 117, 118, 119, 120, 121, 122, 123, 124, 125, 126, 127, 128, 129, 130, 131, 132, 133, 134, 135, 136, 137, 138, 139, 140, 141, 142, 143, 144, 145, 146, 147, 148, 149, 150, 151, 152, 153, 154, 155, 156, 157, 158, 159, 160, 161, 162, 163, 164, 165, 166, 167, 168, 169, 170, 171, 172, 173, 174, 175, 176, 177, 178, 179, 180, 181, 182, 183, 184, 185, 186, 187, 188, 189, 190, 191, 192, 193, 194, 195] rfl (by decide +kernel)
set_option maxRecDepth 100000 in
theorem gX12_least_X12_passes : GoodIn wsX12_least (wsV RX12 443 RX12 yX12_passes wsX12_passes) := goodIn_app (goodIn_of _ (by decide +kernel)) ggX12_least_X12_passes
set_option maxRecDepth 100000 in
theorem ggX12_least_X12_lesser : GoodIn wsX12_least wsX12_lesser := goodIn_r _ [109] rfl (by decide +kernel)
set_option maxRecDepth 100000 in
theorem gX12_least_X12_lesser : GoodIn wsX12_least (va_wsS RX12 322 yX12_lesser wsX12_lesser) := goodIn_app (goodIn_of _ (by decide +kernel)) ggX12_least_X12_lesser
set_option maxRecDepth 100000 in
theorem ggX12_certificate_X12_handPasses : GoodIn wsX12_certificate wsX12_handPasses := goodIn_r _ [10, 11, 12, 1, 13, 14, 15, 9, 16, 17, 2, 18, 19, 20, 21, 22, 23, 5, 24, 25, 26, 27, 28, 29, 30, 31, 3, 32, 4, 33, 34, 35, 36, 37, 38, 39, 40, 41, 42, 43, 44, 45, 46, 47, 48, 49, 50, 51, 52, 53, 54, 55, 56, 57, 58, 59, 60, 61, 62, 63, 64, 65, 66, 67, 68, 69, 70, 71, 72, 73, 74, 75, 76, 77, 85, 86, 87, 88, 89, 90, 91, 92, 93, 94, 95, 96, 97, 98, 99, 100, 101, 102, 103, 104, 105, 106, 107, 108, 109, 110, 111, 112, 113, 114, 115, 116, 117, 118, 119, 120, 121, 122, 123, 124, 125, 126, 127, 128, 129, 130, 131, 132, 133, 134, 135, 136, 137, 138, 139, 140, 141, 142, 143, 144, 145, 146, 147, 148, 149, 150, 151] rfl (by decide +kernel)
set_option maxRecDepth 100000 in
theorem gX12_certificate_X12_handPasses : GoodIn wsX12_certificate (wsV RX12 452 RX12 yX12_handPasses wsX12_handPasses) := goodIn_app (goodIn_of _ (by decide +kernel)) ggX12_certificate_X12_handPasses
set_option maxRecDepth 100000 in
theorem ggX12_certificate_X12_isIn : GoodIn wsX12_certificate wsX12_isIn := goodIn_r _ [80] rfl (by decide +kernel)
set_option maxRecDepth 100000 in
theorem gX12_certificate_X12_isIn : GoodIn wsX12_certificate (va_wsS RX12 263 yX12_isIn wsX12_isIn) := goodIn_app (goodIn_of _ (by decide +kernel)) ggX12_certificate_X12_isIn
set_option maxRecDepth 100000 in
theorem ggX12_certificate_X12_byteOf : GoodIn wsX12_certificate wsX12_byteOf := goodIn_r _ [83, 84] rfl (by decide +kernel)
set_option maxRecDepth 100000 in
theorem gX12_certificate_X12_byteOf : GoodIn wsX12_certificate (va_wsS RX12 510 yX12_byteOf wsX12_byteOf) := goodIn_app (goodIn_of _ (by decide +kernel)) ggX12_certificate_X12_byteOf
set_option maxRecDepth 100000 in
theorem ggX12_isFormatSaid_X12_isFormat : GoodIn wsX12_isFormatSaid wsX12_isFormat := goodIn_r _ [9, 10, 11, 12, 8, 13, 14, 15, 16, 17, 18, 19, 20, 21, 22, 23, 24, 25, 26, 27, 28, 29, 30, 31, 32, 33, 34, 35, 36, 37, 38, 39, 40, 41, 42, 43, 44, 45, 46, 47, 48, 49, 50, 51, 52, 53, 54, 55, 56, 57, 58, 59, 60, 61, 62, 63, 64, 65, 66, 67, 68, 69, 70, 71, 72, 73, 74, 75, 76, 77, 78, 79, 80] rfl (by decide +kernel)
set_option maxRecDepth 100000 in
theorem gX12_isFormatSaid_X12_isFormat : GoodIn wsX12_isFormatSaid (wsV RX12 370 RX12 yX12_isFormat wsX12_isFormat) := goodIn_app (goodIn_of _ (by decide +kernel)) ggX12_isFormatSaid_X12_isFormat
set_option maxRecDepth 100000 in
theorem ggX12_breaks_X12_isFormatSaid : GoodIn wsX12_breaks wsX12_isFormatSaid := goodIn_r _ [15, 2, 16, 17, 18, 19, 20, 21, 14, 22, 23, 24, 25, 26, 80, 81, 82, 83, 84, 85, 86, 87, 88, 89, 90, 91, 92, 93, 94, 95, 96, 97, 98, 99, 100, 101, 102, 103, 104, 105, 106, 107, 108, 109, 110, 111, 112, 113, 114, 115, 116, 117, 118, 119, 120, 121, 122, 123, 124, 125, 126, 127, 128, 129, 130, 131, 132, 133, 134, 135, 136, 137, 138, 139, 140, 141, 142, 143, 144, 145, 146] rfl (by decide +kernel)
set_option maxRecDepth 100000 in
theorem gX12_breaks_X12_isFormatSaid : GoodIn wsX12_breaks (wsV RX12 518 RX12 yX12_isFormatSaid wsX12_isFormatSaid) := goodIn_app (goodIn_of _ (by decide +kernel)) ggX12_breaks_X12_isFormatSaid
set_option maxRecDepth 100000 in
theorem ggX12_breaks_X12_laysRange : GoodIn wsX12_breaks wsX12_laysRange := goodIn_r _ [30, 31, 32, 33, 4, 34, 6, 35, 36, 37, 38, 14, 39, 40, 41, 42, 43, 44, 45, 46, 47, 48, 49, 50, 51, 52, 53, 54, 55, 56, 57, 58, 59, 60, 61, 62, 63, 80, 81, 82, 83, 84, 85, 86, 87, 88, 89, 90, 91, 92, 93, 94, 95, 96, 97, 98, 99, 100, 101, 102, 103, 104, 105, 106, 107, 108, 109, 110, 111, 112, 113, 114, 115, 116, 117, 118, 119, 120, 121, 122, 123, 124, 125, 126, 127, 128, 129, 130, 131, 132, 133, 134, 135, 136, 137, 138, 139, 140, 141, 142, 143, 144, 145, 146] rfl (by decide +kernel)
set_option maxRecDepth 100000 in
theorem gX12_breaks_X12_laysRange : GoodIn wsX12_breaks (wsV RX12 417 RX12 yX12_laysRange wsX12_laysRange) := goodIn_app (goodIn_of _ (by decide +kernel)) ggX12_breaks_X12_laysRange
set_option maxRecDepth 100000 in
theorem ggX12_breaks_X12_laysError : GoodIn wsX12_breaks wsX12_laysError := goodIn_r _ [67, 68, 1, 52, 31, 8, 53, 69, 70, 71, 14, 72, 40, 41, 35, 34, 36, 37, 38, 39, 4, 73, 74, 75, 42, 43, 44, 45, 6, 61, 62, 63, 55, 56, 57, 80, 81, 82, 83, 84, 85, 86, 87, 88, 89, 90, 91, 92, 93, 94, 95, 96, 97, 98, 99, 100, 101, 102, 103, 104, 105, 106, 107, 108, 109, 110, 111, 112, 113, 114, 115, 116, 117, 118, 119, 120, 121, 122, 123, 124, 125, 126, 127, 128, 129, 130, 131, 132, 133, 134, 135, 136, 137, 138, 139, 140, 141, 142, 143, 144, 145, 146] rfl (by decide +kernel)
set_option maxRecDepth 100000 in
theorem gX12_breaks_X12_laysError : GoodIn wsX12_breaks (wsV RX12 430 RX12 yX12_laysError wsX12_laysError) := goodIn_app (goodIn_of _ (by decide +kernel)) ggX12_breaks_X12_laysError
set_option maxRecDepth 100000 in
theorem ggX12_breaks_X12_mostOf : GoodIn wsX12_breaks wsX12_mostOf := goodIn_r _ [79, 4, 6, 73, 74, 14, 75, 61, 62, 63, 80, 81, 82, 83, 84, 85, 86, 87, 88, 89, 90, 91, 92, 93, 94, 95, 96, 97, 98, 99, 100, 101, 102, 103, 104, 105, 106, 107, 108, 109, 110, 111, 112, 113, 114, 115, 116, 117, 118, 119, 120, 121, 122, 123, 124, 125, 126, 127, 128, 129, 130, 131, 132, 133, 134, 135, 136, 137, 138, 139, 140, 141, 142, 143, 144, 145, 146] rfl (by decide +kernel)
set_option maxRecDepth 100000 in
theorem gX12_breaks_X12_mostOf : GoodIn wsX12_breaks (wsV RX12 420 RX12 yX12_mostOf wsX12_mostOf) := goodIn_app (goodIn_of _ (by decide +kernel)) ggX12_breaks_X12_mostOf
set_option maxRecDepth 100000 in
theorem ggX12_check_X12_isRefused : GoodIn wsX12_check wsX12_isRefused := goodIn_r _ [15, 16, 99, 100, 101, 102, 103, 104, 105, 106, 107, 108, 109, 110, 111, 112, 113, 114, 115, 116, 117, 118, 119, 120, 121, 122, 123, 124, 125, 126, 127, 128, 129, 130, 131, 132, 133, 134, 135, 136, 137, 138, 139, 140, 141, 142, 143, 144, 145, 146, 147, 148, 149, 150, 151, 152, 153, 154, 155, 156, 157, 158, 159, 160, 161, 162, 163, 164, 165] rfl (by decide +kernel)
set_option maxRecDepth 100000 in
theorem gX12_check_X12_isRefused : GoodIn wsX12_check (wsV RX12 224 RX12 yX12_isRefused wsX12_isRefused) := goodIn_app (goodIn_of _ (by decide +kernel)) ggX12_check_X12_isRefused
set_option maxRecDepth 100000 in
theorem ggX12_check_X12_readsLong : GoodIn wsX12_check wsX12_readsLong := goodIn_r _ [20, 7, 21, 22, 99, 100, 101, 102, 103, 104, 105, 106, 107, 108, 109, 110, 111, 112, 113, 114, 115, 116, 117, 118, 119, 120, 121, 122, 123, 124, 125, 126, 127, 128, 129, 130, 131, 132, 133, 134, 135, 136, 137, 138, 139, 140, 141, 142, 143, 144, 145, 146, 147, 148, 149, 150, 151, 152, 153, 154, 155, 156, 157, 158, 159, 160, 161, 162, 163, 164, 165] rfl (by decide +kernel)
set_option maxRecDepth 100000 in
theorem gX12_check_X12_readsLong : GoodIn wsX12_check (wsV RX12 521 RX12 yX12_readsLong wsX12_readsLong) := goodIn_app (goodIn_of _ (by decide +kernel)) ggX12_check_X12_readsLong
set_option maxRecDepth 100000 in
theorem ggX12_check_X12_breaks : GoodIn wsX12_check wsX12_breaks := goodIn_r _ [26, 27, 6, 8, 28, 9, 29, 10, 30, 31, 32, 33, 34, 35, 14, 36, 4, 37, 38, 39, 40, 41, 42, 43, 44, 45, 46, 47, 48, 49, 50, 51, 5, 52, 53, 54, 55, 56, 57, 58, 59, 60, 61, 62, 63, 64, 65, 66, 67, 68, 69, 70, 71, 72, 73, 74, 75, 76, 77, 78, 79, 80, 81, 82, 83, 84, 85, 86, 87, 88, 89, 90, 91, 92, 93, 94, 95, 96, 97, 98, 99, 100, 101, 102, 103, 104, 105, 106, 107, 108, 109, 110, 111, 112, 113, 114, 115, 116, 117, 118, 119, 120, 121, 122, 123, 124, 125, 126, 127, 128, 129, 130, 131, 132, 133, 134, 135, 136, 137, 138, 139, 140, 141, 142, 143, 144, 145, 146, 147, 148, 149, 150, 151, 152, 153, 154, 155, 156, 157, 158, 159, 160, 161, 162, 163, 164, 165] rfl (by decide +kernel)
set_option maxRecDepth 100000 in
theorem gX12_check_X12_breaks : GoodIn wsX12_check (wsV RX12 524 RX12 yX12_breaks wsX12_breaks) := goodIn_app (goodIn_of _ (by decide +kernel)) ggX12_check_X12_breaks
set_option maxRecDepth 100000 in
theorem ggX12_castOf_X12_rounded : GoodIn wsX12_castOf wsX12_rounded := goodIn_r _ [11, 12, 13, 14, 10, 15] rfl (by decide +kernel)
set_option maxRecDepth 100000 in
theorem gX12_castOf_X12_rounded : GoodIn wsX12_castOf (va_wsS RX12 533 yX12_rounded wsX12_rounded) := goodIn_app (goodIn_of _ (by decide +kernel)) ggX12_castOf_X12_rounded
set_option maxRecDepth 100000 in
theorem ggX12_triesOnce_X12_draw : GoodIn wsX12_triesOnce wsX12_draw := goodIn_r _ [13, 14, 15, 16, 17, 49, 50, 51, 52, 53, 54, 55, 56, 57, 58, 59, 60, 61, 62, 63, 64, 65, 66, 67, 68, 69, 70, 71, 72, 73, 74, 75, 76, 77, 78, 79, 80, 81, 82, 83, 84, 85, 86, 87, 88, 89, 90, 91, 92, 93, 94, 95, 96, 97, 98, 99, 100, 101, 102, 103, 104, 105, 106, 107, 108, 109, 110, 111, 112, 113, 114, 115] rfl (by decide +kernel)
set_option maxRecDepth 100000 in
theorem gX12_triesOnce_X12_draw : GoodIn wsX12_triesOnce (wsV RX12 536 RX12 yX12_draw wsX12_draw) := goodIn_app (goodIn_of _ (by decide +kernel)) ggX12_triesOnce_X12_draw
set_option maxRecDepth 100000 in
theorem ggX12_triesOnce_X12_rounded : GoodIn wsX12_triesOnce wsX12_rounded := goodIn_r _ [20, 21, 22, 23, 12, 24] rfl (by decide +kernel)
set_option maxRecDepth 100000 in
theorem gX12_triesOnce_X12_rounded : GoodIn wsX12_triesOnce (va_wsS RX12 533 yX12_rounded wsX12_rounded) := goodIn_app (goodIn_of _ (by decide +kernel)) ggX12_triesOnce_X12_rounded
set_option maxRecDepth 100000 in
theorem ggX12_triesOnce_X12_exactOf : GoodIn wsX12_triesOnce wsX12_exactOf := goodIn_r _ [28, 29, 30, 7, 6, 5, 49, 50, 51, 52, 53, 54, 55, 56, 57, 58, 59, 60, 61, 62, 63, 64, 65, 66, 67, 68, 69, 70, 71, 72, 73, 74, 75, 76, 77, 78, 79, 80, 81, 82, 83, 84, 85, 86, 87, 88, 89, 90, 91, 92, 93, 94, 95, 96, 97, 98, 99, 100, 101, 102, 103, 104, 105, 106, 107, 108, 109, 110, 111, 112, 113, 114, 115] rfl (by decide +kernel)
set_option maxRecDepth 100000 in
theorem gX12_triesOnce_X12_exactOf : GoodIn wsX12_triesOnce (wsV RX12 539 RX12 yX12_exactOf wsX12_exactOf) := goodIn_app (goodIn_of _ (by decide +kernel)) ggX12_triesOnce_X12_exactOf
set_option maxRecDepth 100000 in
theorem ggX12_triesOnce_X12_two : GoodIn wsX12_triesOnce wsX12_two := goodIn_r _ [33, 34, 35, 12, 36, 21, 37, 38, 22, 23, 24, 39, 40, 41, 42, 43, 44] rfl (by decide +kernel)
set_option maxRecDepth 100000 in
theorem gX12_triesOnce_X12_two : GoodIn wsX12_triesOnce (va_wsS RX12 406 yX12_two wsX12_two) := goodIn_app (goodIn_of _ (by decide +kernel)) ggX12_triesOnce_X12_two
set_option maxRecDepth 100000 in
theorem ggX12_triesOnce_X12_castOf : GoodIn wsX12_triesOnce wsX12_castOf := goodIn_r _ [48, 29, 30, 7, 6, 8, 2, 3, 18, 19, 12, 20, 21, 22, 23, 24, 49, 50, 51, 52, 53, 54, 55, 56, 57, 58, 59, 60, 61, 62, 63, 64, 65, 66, 67, 68, 69, 70, 71, 72, 73, 74, 75, 76, 77, 78, 79, 80, 81, 82, 83, 84, 85, 86, 87, 88, 89, 90, 91, 92, 93, 94, 95, 96, 97, 98, 99, 100, 101, 102, 103, 104, 105, 106, 107, 108, 109, 110, 111, 112, 113, 114, 115] rfl (by decide +kernel)
set_option maxRecDepth 100000 in
theorem gX12_triesOnce_X12_castOf : GoodIn wsX12_triesOnce (wsV RX12 542 RX12 yX12_castOf wsX12_castOf) := goodIn_app (goodIn_of _ (by decide +kernel)) ggX12_triesOnce_X12_castOf
set_option maxRecDepth 100000 in
theorem ggX12_trials_X12_isIn : GoodIn wsX12_trials wsX12_isIn := goodIn_r _ [7] rfl (by decide +kernel)
set_option maxRecDepth 100000 in
theorem gX12_trials_X12_isIn : GoodIn wsX12_trials (va_wsS RX12 263 yX12_isIn wsX12_isIn) := goodIn_app (goodIn_of _ (by decide +kernel)) ggX12_trials_X12_isIn
set_option maxRecDepth 100000 in
theorem ggX12_trials_X12_isNumber : GoodIn wsX12_trials wsX12_isNumber := goodIn_r _ [11, 12, 4, 5, 6, 7, 116, 117, 118, 119, 120, 121, 122, 123, 124, 125, 126, 127, 128, 129, 130, 131, 132, 133, 134, 135, 136, 137, 138, 139, 140, 141, 142, 143, 144, 145, 146, 147, 148, 149, 150, 151, 152, 153, 154, 155, 156, 157, 158, 159, 160, 161, 162, 163, 164, 165, 166, 167, 168, 169, 170, 171, 172, 173, 174, 175, 176, 177, 178, 179, 180, 181, 182] rfl (by decide +kernel)
set_option maxRecDepth 100000 in
theorem gX12_trials_X12_isNumber : GoodIn wsX12_trials (wsV RX12 373 RX12 yX12_isNumber wsX12_isNumber) := goodIn_app (goodIn_of _ (by decide +kernel)) ggX12_trials_X12_isNumber
set_option maxRecDepth 100000 in
theorem ggX12_trials_X12_handPasses : GoodIn wsX12_trials wsX12_handPasses := goodIn_r _ [16, 17, 18, 12, 19, 20, 21, 6, 22, 23, 24, 25, 26, 27, 28, 29, 30, 31, 32, 33, 34, 35, 36, 37, 38, 39, 40, 41, 42, 43, 44, 45, 46, 47, 48, 49, 50, 51, 52, 53, 54, 55, 56, 57, 58, 59, 60, 61, 62, 63, 64, 65, 66, 67, 68, 69, 70, 71, 72, 73, 74, 75, 76, 77, 78, 79, 80, 81, 82, 83, 84, 85, 86, 87, 116, 117, 118, 119, 120, 121, 122, 123, 124, 125, 126, 127, 128, 129, 130, 131, 132, 133, 134, 135, 136, 137, 138, 139, 140, 141, 142, 143, 144, 145, 146, 147, 148, 149, 150, 151, 152, 153, 154, 155, 156, 157, 158, 159, 160, 161, 162, 163, 164, 165, 166, 167, 168, 169, 170, 171, 172, 173, 174, 175, 176, 177, 178, 179, 180, 181, 182] rfl (by decide +kernel)
set_option maxRecDepth 100000 in
theorem gX12_trials_X12_handPasses : GoodIn wsX12_trials (wsV RX12 452 RX12 yX12_handPasses wsX12_handPasses) := goodIn_app (goodIn_of _ (by decide +kernel)) ggX12_trials_X12_handPasses
set_option maxRecDepth 100000 in
theorem ggX12_trials_X12_refuses : GoodIn wsX12_trials wsX12_refuses := goodIn_r _ [91, 92, 116, 117, 118, 119, 120, 121, 122, 123, 124, 125, 126, 127, 128, 129, 130, 131, 132, 133, 134, 135, 136, 137, 138, 139, 140, 141, 142, 143, 144, 145, 146, 147, 148, 149, 150, 151, 152, 153, 154, 155, 156, 157, 158, 159, 160, 161, 162, 163, 164, 165, 166, 167, 168, 169, 170, 171, 172, 173, 174, 175, 176, 177, 178, 179, 180, 181, 182] rfl (by decide +kernel)
set_option maxRecDepth 100000 in
theorem gX12_trials_X12_refuses : GoodIn wsX12_trials (wsV RX12 216 RX12 yX12_refuses wsX12_refuses) := goodIn_app (goodIn_of _ (by decide +kernel)) ggX12_trials_X12_refuses
set_option maxRecDepth 100000 in
theorem ggX12_trials_X12_triesOnce : GoodIn wsX12_trials wsX12_triesOnce := goodIn_r _ [96, 12, 76, 24, 38, 3, 41, 43, 2, 97, 98, 99, 6, 100, 101, 102, 103, 104, 105, 106, 107, 60, 63, 64, 65, 108, 109, 110, 111, 48, 49, 54, 55, 56, 57, 58, 59, 61, 62, 66, 67, 68, 69, 70, 71, 112, 113, 114, 115, 116, 117, 118, 119, 120, 121, 122, 123, 124, 125, 126, 127, 128, 129, 130, 131, 132, 133, 134, 135, 136, 137, 138, 139, 140, 141, 142, 143, 144, 145, 146, 147, 148, 149, 150, 151, 152, 153, 154, 155, 156, 157, 158, 159, 160, 161, 162, 163, 164, 165, 166, 167, 168, 169, 170, 171, 172, 173, 174, 175, 176, 177, 178, 179, 180, 181, 182] rfl (by decide +kernel)
set_option maxRecDepth 100000 in
theorem gX12_trials_X12_triesOnce : GoodIn wsX12_trials (wsV RX12 547 RX12 yX12_triesOnce wsX12_triesOnce) := goodIn_app (goodIn_of _ (by decide +kernel)) ggX12_trials_X12_triesOnce
set_option maxRecDepth 100000 in
theorem ggX12_trials_X12_amount : GoodIn wsX12_trials wsX12_amount := goodIn_r _ [83] rfl (by decide +kernel)
set_option maxRecDepth 100000 in
theorem gX12_trials_X12_amount : GoodIn wsX12_trials (va_wsS RX12 410 yX12_amount wsX12_amount) := goodIn_app (goodIn_of _ (by decide +kernel)) ggX12_trials_X12_amount
set_option maxRecDepth 100000 in
theorem ggX12_trials_X12_greater : GoodIn wsX12_trials wsX12_greater := goodIn_r _ [71] rfl (by decide +kernel)
set_option maxRecDepth 100000 in
theorem gX12_trials_X12_greater : GoodIn wsX12_trials (va_wsS RX12 396 yX12_greater wsX12_greater) := goodIn_app (goodIn_of _ (by decide +kernel)) ggX12_trials_X12_greater
set_option maxRecDepth 100000 in
theorem ggX12_trial_X12_isNumber : GoodIn wsX12_trial wsX12_isNumber := goodIn_r _ [9, 10, 11, 12, 8, 13, 111, 112, 113, 114, 115, 116, 117, 118, 119, 120, 121, 122, 123, 124, 125, 126, 127, 128, 129, 130, 131, 132, 133, 134, 135, 136, 137, 138, 139, 140, 141, 142, 143, 144, 145, 146, 147, 148, 149, 150, 151, 152, 153, 154, 155, 156, 157, 158, 159, 160, 161, 162, 163, 164, 165, 166, 167, 168, 169, 170, 171, 172, 173, 174, 175, 176, 177] rfl (by decide +kernel)
set_option maxRecDepth 100000 in
theorem gX12_trial_X12_isNumber : GoodIn wsX12_trial (wsV RX12 373 RX12 yX12_isNumber wsX12_isNumber) := goodIn_app (goodIn_of _ (by decide +kernel)) ggX12_trial_X12_isNumber
set_option maxRecDepth 100000 in
theorem ggX12_trial_X12_handPasses : GoodIn wsX12_trial wsX12_handPasses := goodIn_r _ [17, 18, 19, 10, 20, 21, 22, 8, 23, 24, 25, 26, 27, 28, 29, 30, 31, 32, 33, 34, 35, 36, 37, 38, 39, 40, 41, 42, 43, 44, 45, 46, 47, 48, 49, 50, 51, 52, 53, 54, 55, 56, 57, 58, 59, 60, 61, 62, 63, 64, 65, 66, 67, 68, 69, 70, 71, 72, 73, 74, 75, 76, 77, 78, 79, 80, 81, 82, 83, 84, 85, 86, 87, 88, 111, 112, 113, 114, 115, 116, 117, 118, 119, 120, 121, 122, 123, 124, 125, 126, 127, 128, 129, 130, 131, 132, 133, 134, 135, 136, 137, 138, 139, 140, 141, 142, 143, 144, 145, 146, 147, 148, 149, 150, 151, 152, 153, 154, 155, 156, 157, 158, 159, 160, 161, 162, 163, 164, 165, 166, 167, 168, 169, 170, 171, 172, 173, 174, 175, 176, 177] rfl (by decide +kernel)
set_option maxRecDepth 100000 in
theorem gX12_trial_X12_handPasses : GoodIn wsX12_trial (wsV RX12 452 RX12 yX12_handPasses wsX12_handPasses) := goodIn_app (goodIn_of _ (by decide +kernel)) ggX12_trial_X12_handPasses
set_option maxRecDepth 100000 in
theorem ggX12_trial_X12_triesOnce : GoodIn wsX12_trial wsX12_triesOnce := goodIn_r _ [92, 10, 77, 25, 39, 4, 42, 44, 3, 93, 94, 95, 8, 96, 97, 2, 98, 99, 100, 101, 102, 61, 64, 65, 66, 103, 104, 105, 106, 49, 50, 55, 56, 57, 58, 59, 60, 62, 63, 67, 68, 69, 70, 71, 72, 107, 108, 109, 110, 111, 112, 113, 114, 115, 116, 117, 118, 119, 120, 121, 122, 123, 124, 125, 126, 127, 128, 129, 130, 131, 132, 133, 134, 135, 136, 137, 138, 139, 140, 141, 142, 143, 144, 145, 146, 147, 148, 149, 150, 151, 152, 153, 154, 155, 156, 157, 158, 159, 160, 161, 162, 163, 164, 165, 166, 167, 168, 169, 170, 171, 172, 173, 174, 175, 176, 177] rfl (by decide +kernel)
set_option maxRecDepth 100000 in
theorem gX12_trial_X12_triesOnce : GoodIn wsX12_trial (wsV RX12 547 RX12 yX12_triesOnce wsX12_triesOnce) := goodIn_app (goodIn_of _ (by decide +kernel)) ggX12_trial_X12_triesOnce
set_option maxRecDepth 100000 in
theorem ggX12_seed_X12_isRefused : GoodIn wsX12_seed wsX12_isRefused := goodIn_r _ [6, 7, 8, 9, 10, 11, 12, 13, 14, 15, 16, 17, 18, 19, 20, 21, 22, 23, 24, 25, 26, 27, 28, 29, 30, 31, 32, 33, 34, 35, 36, 37, 38, 39, 40, 41, 42, 43, 44, 45, 46, 47, 48, 49, 50, 51, 52, 53, 54, 55, 56, 57, 58, 59, 60, 61, 62, 63, 64, 65, 66, 67, 68, 69, 70, 71, 72, 73, 74] rfl (by decide +kernel)
set_option maxRecDepth 100000 in
theorem gX12_seed_X12_isRefused : GoodIn wsX12_seed (wsV RX12 224 RX12 yX12_isRefused wsX12_isRefused) := goodIn_app (goodIn_of _ (by decide +kernel)) ggX12_seed_X12_isRefused
set_option maxRecDepth 100000 in
theorem ggX12_status_X12_isIn : GoodIn wsX12_status wsX12_isIn := goodIn_r _ [6] rfl (by decide +kernel)
set_option maxRecDepth 100000 in
theorem gX12_status_X12_isIn : GoodIn wsX12_status (va_wsS RX12 263 yX12_isIn wsX12_isIn) := goodIn_app (goodIn_of _ (by decide +kernel)) ggX12_status_X12_isIn
