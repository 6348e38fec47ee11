set_option maxRecDepth 100000 in
theorem ggX12_feed_X12_refuses : GoodIn wsX12_feed wsX12_refuses := goodIn_r _ [6, 7, 13, 14, 15, 16, 17, 18, 19, 20, 21, 22, 23, 24, 25, 26, 27, 28, 29, 30, 31, 32, 33, 34, 35, 36, 37, 38, 39, 40, 41, 42, 43, 44, 45, 46, 47, 48, 49, 50, 51, 52, 53, 54, 55, 56, 57, 58, 59, 60, 61, 62, 63, 64, 65, 66, 67, 68, 69, 70, 71, 72, 73, 74, 75, 76, 77, 78, 79] rfl (by decide +kernel)
set_option maxRecDepth 100000 in
theorem gX12_feed_X12_refuses : GoodIn wsX12_feed (wsV RX12 216 RX12 yX12_refuses wsX12_refuses) := goodIn_app (goodIn_of _ (by decide +kernel)) ggX12_feed_X12_refuses
set_option maxRecDepth 100000 in
theorem ggX12_feed_X12_lays : GoodIn wsX12_feed wsX12_lays := goodIn_r _ [11, 12, 1, 13, 14, 15, 16, 17, 18, 19, 20, 21, 22, 23, 24, 25, 26, 27, 28, 29, 30, 31, 32, 33, 34, 35, 36, 37, 38, 39, 40, 41, 42, 43, 44, 45, 46, 47, 48, 49, 50, 51, 52, 53, 54, 55, 56, 57, 58, 59, 60, 61, 62, 63, 64, 65, 66, 67, 68, 69, 70, 71, 72, 73, 74, 75, 76, 77, 78, 79] rfl (by decide +kernel)
set_option maxRecDepth 100000 in
theorem gX12_feed_X12_lays : GoodIn wsX12_feed (wsV RX12 220 RX12 yX12_lays wsX12_lays) := goodIn_app (goodIn_of _ (by decide +kernel)) ggX12_feed_X12_lays
set_option maxRecDepth 100000 in
theorem ggX12_end_X12_isRefused : GoodIn wsX12_end wsX12_isRefused := goodIn_r _ [6, 7, 8, 9, 10, 11, 12, 13, 14, 15, 16, 17, 18, 19, 20, 21, 22, 23, 24, 25, 26, 27, 28, 29, 30, 31, 32, 33, 34, 35, 36, 37, 38, 39, 40, 41, 42, 43, 44, 45, 46, 47, 48, 49, 50, 51, 52, 53, 54, 55, 56, 57, 58, 59, 60, 61, 62, 63, 64, 65, 66, 67, 68, 69, 70, 71, 72, 73, 74] rfl (by decide +kernel)
set_option maxRecDepth 100000 in
theorem gX12_end_X12_isRefused : GoodIn wsX12_end (wsV RX12 224 RX12 yX12_isRefused wsX12_isRefused) := goodIn_app (goodIn_of _ (by decide +kernel)) ggX12_end_X12_isRefused
set_option maxRecDepth 100000 in
theorem ggX12_isSmall_X12_byteAt : GoodIn wsX12_isSmall wsX12_byteAt := goodIn_r _ [5, 6, 7, 8, 9, 10, 11, 12, 13, 14, 15, 16, 17, 18, 19, 20, 21, 22, 23, 24, 25, 26, 27, 28, 29, 30, 31, 32, 33, 34, 35, 36, 37, 38, 39, 40, 41, 42, 43, 44, 45, 46, 47, 48, 49, 50, 51, 52, 53, 54, 55, 56, 57, 58, 59, 60, 61, 62, 63, 64, 65, 66, 67, 68, 69, 70, 71, 72, 73, 74] rfl (by decide +kernel)
set_option maxRecDepth 100000 in
theorem gX12_isSmall_X12_byteAt : GoodIn wsX12_isSmall (wsV RX12 228 RX12 yX12_byteAt wsX12_byteAt) := goodIn_app (goodIn_of _ (by decide +kernel)) ggX12_isSmall_X12_byteAt
set_option maxRecDepth 100000 in
theorem ggX12_isDigit_X12_byteAt : GoodIn wsX12_isDigit wsX12_byteAt := goodIn_r _ [5, 6, 7, 8, 9, 10, 11, 12, 13, 14, 15, 16, 17, 18, 19, 20, 21, 22, 23, 24, 25, 26, 27, 28, 29, 30, 31, 32, 33, 34, 35, 36, 37, 38, 39, 40, 41, 42, 43, 44, 45, 46, 47, 48, 49, 50, 51, 52, 53, 54, 55, 56, 57, 58, 59, 60, 61, 62, 63, 64, 65, 66, 67, 68, 69, 70, 71, 72, 73, 74] rfl (by decide +kernel)
set_option maxRecDepth 100000 in
theorem gX12_isDigit_X12_byteAt : GoodIn wsX12_isDigit (wsV RX12 228 RX12 yX12_byteAt wsX12_byteAt) := goodIn_app (goodIn_of _ (by decide +kernel)) ggX12_isDigit_X12_byteAt
set_option maxRecDepth 100000 in
theorem ggX12_here_X12_byteAt : GoodIn wsX12_here wsX12_byteAt := goodIn_r _ [6, 7, 8, 9, 10, 11, 12, 13, 14, 15, 16, 17, 18, 19, 20, 21, 22, 23, 24, 25, 26, 27, 28, 29, 30, 31, 32, 33, 34, 35, 36, 37, 38, 39, 40, 41, 42, 43, 44, 45, 46, 47, 48, 49, 50, 51, 52, 53, 54, 55, 56, 57, 58, 59, 60, 61, 62, 63, 64, 65, 66, 67, 68, 69, 70, 71, 72, 73, 74, 75] rfl (by decide +kernel)
set_option maxRecDepth 100000 in
theorem gX12_here_X12_byteAt : GoodIn wsX12_here (wsV RX12 228 RX12 yX12_byteAt wsX12_byteAt) := goodIn_app (goodIn_of _ (by decide +kernel)) ggX12_here_X12_byteAt
set_option maxRecDepth 100000 in
theorem ggX12_mark_X12_goesWell : GoodIn wsX12_mark wsX12_goesWell := goodIn_r _ [6, 7, 23, 24, 25, 26, 27, 28, 29, 30, 31, 32, 33, 34, 35, 36, 37, 38, 39, 40, 41, 42, 43, 44, 45, 46, 47, 48, 49, 50, 51, 52, 53, 54, 55, 56, 57, 58, 59, 60, 61, 62, 63, 64, 65, 66, 67, 68, 69, 70, 71, 72, 73, 74, 75, 76, 77, 78, 79, 80, 81, 82, 83, 84, 85, 86, 87, 88, 89] rfl (by decide +kernel)
set_option maxRecDepth 100000 in
theorem gX12_mark_X12_goesWell : GoodIn wsX12_mark (wsV RX12 231 RX12 yX12_goesWell wsX12_goesWell) := goodIn_app (goodIn_of _ (by decide +kernel)) ggX12_mark_X12_goesWell
set_option maxRecDepth 100000 in
theorem ggX12_mark_X12_here : GoodIn wsX12_mark wsX12_here := goodIn_r _ [11, 1, 12, 13, 14, 5, 15, 16, 17, 23, 24, 25, 26, 27, 28, 29, 30, 31, 32, 33, 34, 35, 36, 37, 38, 39, 40, 41, 42, 43, 44, 45, 46, 47, 48, 49, 50, 51, 52, 53, 54, 55, 56, 57, 58, 59, 60, 61, 62, 63, 64, 65, 66, 67, 68, 69, 70, 71, 72, 73, 74, 75, 76, 77, 78, 79, 80, 81, 82, 83, 84, 85, 86, 87, 88, 89] rfl (by decide +kernel)
set_option maxRecDepth 100000 in
theorem gX12_mark_X12_here : GoodIn wsX12_mark (wsV RX12 235 RX12 yX12_here wsX12_here) := goodIn_app (goodIn_of _ (by decide +kernel)) ggX12_mark_X12_here
set_option maxRecDepth 100000 in
theorem ggX12_mark_X12_faults : GoodIn wsX12_mark wsX12_faults := goodIn_r _ [21, 7, 22, 23, 24, 25, 26, 27, 28, 29, 30, 31, 32, 33, 34, 35, 36, 37, 38, 39, 40, 41, 42, 43, 44, 45, 46, 47, 48, 49, 50, 51, 52, 53, 54, 55, 56, 57, 58, 59, 60, 61, 62, 63, 64, 65, 66, 67, 68, 69, 70, 71, 72, 73, 74, 75, 76, 77, 78, 79, 80, 81, 82, 83, 84, 85, 86, 87, 88, 89] rfl (by decide +kernel)
set_option maxRecDepth 100000 in
theorem gX12_mark_X12_faults : GoodIn wsX12_mark (wsV RX12 239 RX12 yX12_faults wsX12_faults) := goodIn_app (goodIn_of _ (by decide +kernel)) ggX12_mark_X12_faults
set_option maxRecDepth 100000 in
theorem ggX12_word_X12_goesWell : GoodIn wsX12_word wsX12_goesWell := goodIn_r _ [7, 8, 32, 33, 34, 35, 36, 37, 38, 39, 40, 41, 42, 43, 44, 45, 46, 47, 48, 49, 50, 51, 52, 53, 54, 55, 56, 57, 58, 59, 60, 61, 62, 63, 64, 65, 66, 67, 68, 69, 70, 71, 72, 73, 74, 75, 76, 77, 78, 79, 80, 81, 82, 83, 84, 85, 86, 87, 88, 89, 90, 91, 92, 93, 94, 95, 96, 97, 98] rfl (by decide +kernel)
set_option maxRecDepth 100000 in
theorem gX12_word_X12_goesWell : GoodIn wsX12_word (wsV RX12 231 RX12 yX12_goesWell wsX12_goesWell) := goodIn_app (goodIn_of _ (by decide +kernel)) ggX12_word_X12_goesWell
set_option maxRecDepth 100000 in
theorem ggX12_word_X12_here : GoodIn wsX12_word wsX12_here := goodIn_r _ [12, 1, 13, 14, 15, 6, 16, 17, 18, 32, 33, 34, 35, 36, 37, 38, 39, 40, 41, 42, 43, 44, 45, 46, 47, 48, 49, 50, 51, 52, 53, 54, 55, 56, 57, 58, 59, 60, 61, 62, 63, 64, 65, 66, 67, 68, 69, 70, 71, 72, 73, 74, 75, 76, 77, 78, 79, 80, 81, 82, 83, 84, 85, 86, 87, 88, 89, 90, 91, 92, 93, 94, 95, 96, 97, 98] rfl (by decide +kernel)
set_option maxRecDepth 100000 in
theorem gX12_word_X12_here : GoodIn wsX12_word (wsV RX12 235 RX12 yX12_here wsX12_here) := goodIn_app (goodIn_of _ (by decide +kernel)) ggX12_word_X12_here
set_option maxRecDepth 100000 in
theorem ggX12_word_X12_isSmall : GoodIn wsX12_word wsX12_isSmall := goodIn_r _ [22, 13, 14, 15, 6, 16, 17, 18, 32, 33, 34, 35, 36, 37, 38, 39, 40, 41, 42, 43, 44, 45, 46, 47, 48, 49, 50, 51, 52, 53, 54, 55, 56, 57, 58, 59, 60, 61, 62, 63, 64, 65, 66, 67, 68, 69, 70, 71, 72, 73, 74, 75, 76, 77, 78, 79, 80, 81, 82, 83, 84, 85, 86, 87, 88, 89, 90, 91, 92, 93, 94, 95, 96, 97, 98] rfl (by decide +kernel)
set_option maxRecDepth 100000 in
theorem gX12_word_X12_isSmall : GoodIn wsX12_word (wsV RX12 243 RX12 yX12_isSmall wsX12_isSmall) := goodIn_app (goodIn_of _ (by decide +kernel)) ggX12_word_X12_isSmall
set_option maxRecDepth 100000 in
theorem ggX12_word_X12_isDigit : GoodIn wsX12_word wsX12_isDigit := goodIn_r _ [26, 13, 14, 15, 6, 16, 17, 18, 32, 33, 34, 35, 36, 37, 38, 39, 40, 41, 42, 43, 44, 45, 46, 47, 48, 49, 50, 51, 52, 53, 54, 55, 56, 57, 58, 59, 60, 61, 62, 63, 64, 65, 66, 67, 68, 69, 70, 71, 72, 73, 74, 75, 76, 77, 78, 79, 80, 81, 82, 83, 84, 85, 86, 87, 88, 89, 90, 91, 92, 93, 94, 95, 96, 97, 98] rfl (by decide +kernel)
set_option maxRecDepth 100000 in
theorem gX12_word_X12_isDigit : GoodIn wsX12_word (wsV RX12 246 RX12 yX12_isDigit wsX12_isDigit) := goodIn_app (goodIn_of _ (by decide +kernel)) ggX12_word_X12_isDigit
set_option maxRecDepth 100000 in
theorem ggX12_word_X12_faults : GoodIn wsX12_word wsX12_faults := goodIn_r _ [30, 8, 31, 32, 33, 34, 35, 36, 37, 38, 39, 40, 41, 42, 43, 44, 45, 46, 47, 48, 49, 50, 51, 52, 53, 54, 55, 56, 57, 58, 59, 60, 61, 62, 63, 64, 65, 66, 67, 68, 69, 70, 71, 72, 73, 74, 75, 76, 77, 78, 79, 80, 81, 82, 83, 84, 85, 86, 87, 88, 89, 90, 91, 92, 93, 94, 95, 96, 97, 98] rfl (by decide +kernel)
set_option maxRecDepth 100000 in
theorem gX12_word_X12_faults : GoodIn wsX12_word (wsV RX12 239 RX12 yX12_faults wsX12_faults) := goodIn_app (goodIn_of _ (by decide +kernel)) ggX12_word_X12_faults
set_option maxRecDepth 100000 in
theorem ggX12_must_X12_word : GoodIn wsX12_must wsX12_word := goodIn_r _ [6, 7, 1, 8, 9, 10, 5, 11, 12, 13, 14, 15, 16, 17, 18, 19, 20, 21, 22, 23, 24, 25, 26, 27, 28, 29, 30, 31, 32, 33, 34, 35, 41, 42, 43, 44, 45, 46, 47, 48, 49, 50, 51, 52, 53, 54, 55, 56, 57, 58, 59, 60, 61, 62, 63, 64, 65, 66, 67, 68, 69, 70, 71, 72, 73, 74, 75, 76, 77, 78, 79, 80, 81, 82, 83, 84, 85, 86, 87, 88, 89, 90, 91, 92, 93, 94, 95, 96, 97, 98, 99, 100, 101, 102, 103, 104, 105, 106, 107] rfl (by decide +kernel)
set_option maxRecDepth 100000 in
theorem gX12_must_X12_word : GoodIn wsX12_must (wsV RX12 249 RX12 yX12_word wsX12_word) := goodIn_app (goodIn_of _ (by decide +kernel)) ggX12_must_X12_word
set_option maxRecDepth 100000 in
theorem ggX12_must_X12_goesWell : GoodIn wsX12_must wsX12_goesWell := goodIn_r _ [11, 12, 41, 42, 43, 44, 45, 46, 47, 48, 49, 50, 51, 52, 53, 54, 55, 56, 57, 58, 59, 60, 61, 62, 63, 64, 65, 66, 67, 68, 69, 70, 71, 72, 73, 74, 75, 76, 77, 78, 79, 80, 81, 82, 83, 84, 85, 86, 87, 88, 89, 90, 91, 92, 93, 94, 95, 96, 97, 98, 99, 100, 101, 102, 103, 104, 105, 106, 107] rfl (by decide +kernel)
set_option maxRecDepth 100000 in
theorem gX12_must_X12_goesWell : GoodIn wsX12_must (wsV RX12 231 RX12 yX12_goesWell wsX12_goesWell) := goodIn_app (goodIn_of _ (by decide +kernel)) ggX12_must_X12_goesWell
set_option maxRecDepth 100000 in
theorem ggX12_must_X12_own : GoodIn wsX12_must wsX12_own := goodIn_r _ [39, 40, 1, 7, 22, 41, 42, 43, 44, 45, 46, 47, 48, 49, 50, 51, 52, 53, 54, 55, 56, 57, 58, 59, 60, 61, 62, 63, 64, 65, 66, 67, 68, 69, 70, 71, 72, 73, 74, 75, 76, 77, 78, 79, 80, 81, 82, 83, 84, 85, 86, 87, 88, 89, 90, 91, 92, 93, 94, 95, 96, 97, 98, 99, 100, 101, 102, 103, 104, 105, 106, 107] rfl (by decide +kernel)
set_option maxRecDepth 100000 in
theorem gX12_must_X12_own : GoodIn wsX12_must (wsV RX12 252 RX12 yX12_own wsX12_own) := goodIn_app (goodIn_of _ (by decide +kernel)) ggX12_must_X12_own
set_option maxRecDepth 100000 in
theorem ggX12_must_X12_faults : GoodIn wsX12_must wsX12_faults := goodIn_r _ [34, 12, 35, 41, 42, 43, 44, 45, 46, 47, 48, 49, 50, 51, 52, 53, 54, 55, 56, 57, 58, 59, 60, 61, 62, 63, 64, 65, 66, 67, 68, 69, 70, 71, 72, 73, 74, 75, 76, 77, 78, 79, 80, 81, 82, 83, 84, 85, 86, 87, 88, 89, 90, 91, 92, 93, 94, 95, 96, 97, 98, 99, 100, 101, 102, 103, 104, 105, 106, 107] rfl (by decide +kernel)
set_option maxRecDepth 100000 in
theorem gX12_must_X12_faults : GoodIn wsX12_must (wsV RX12 239 RX12 yX12_faults wsX12_faults) := goodIn_app (goodIn_of _ (by decide +kernel)) ggX12_must_X12_faults
set_option maxRecDepth 100000 in
theorem ggX12_name_X12_word : GoodIn wsX12_name wsX12_word := goodIn_r _ [8, 1, 2, 9, 10, 11, 7, 12, 13, 14, 15, 16, 17, 18, 19, 20, 21, 22, 3, 23, 24, 25, 26, 27, 28, 29, 30, 31, 32, 33, 34, 35, 41, 42, 43, 44, 45, 46, 47, 48, 49, 50, 51, 52, 53, 54, 55, 56, 57, 58, 59, 60, 61, 62, 63, 64, 65, 66, 67, 68, 69, 70, 71, 72, 73, 74, 75, 76, 77, 78, 79, 80, 81, 82, 83, 84, 85, 86, 87, 88, 89, 90, 91, 92, 93, 94, 95, 96, 97, 98, 99, 100, 101, 102, 103, 104, 105, 106, 107] rfl (by decide +kernel)
set_option maxRecDepth 100000 in
theorem gX12_name_X12_word : GoodIn wsX12_name (wsV RX12 249 RX12 yX12_word wsX12_word) := goodIn_app (goodIn_of _ (by decide +kernel)) ggX12_name_X12_word
set_option maxRecDepth 100000 in
theorem ggX12_name_X12_goesWell : GoodIn wsX12_name wsX12_goesWell := goodIn_r _ [12, 13, 41, 42, 43, 44, 45, 46, 47, 48, 49, 50, 51, 52, 53, 54, 55, 56, 57, 58, 59, 60, 61, 62, 63, 64, 65, 66, 67, 68, 69, 70, 71, 72, 73, 74, 75, 76, 77, 78, 79, 80, 81, 82, 83, 84, 85, 86, 87, 88, 89, 90, 91, 92, 93, 94, 95, 96, 97, 98, 99, 100, 101, 102, 103, 104, 105, 106, 107] rfl (by decide +kernel)
set_option maxRecDepth 100000 in
theorem gX12_name_X12_goesWell : GoodIn wsX12_name (wsV RX12 231 RX12 yX12_goesWell wsX12_goesWell) := goodIn_app (goodIn_of _ (by decide +kernel)) ggX12_name_X12_goesWell
set_option maxRecDepth 100000 in
theorem ggX12_name_X12_own : GoodIn wsX12_name wsX12_own := goodIn_r _ [39, 40, 2, 1, 3, 41, 42, 43, 44, 45, 46, 47, 48, 49, 50, 51, 52, 53, 54, 55, 56, 57, 58, 59, 60, 61, 62, 63, 64, 65, 66, 67, 68, 69, 70, 71, 72, 73, 74, 75, 76, 77, 78, 79, 80, 81, 82, 83, 84, 85, 86, 87, 88, 89, 90, 91, 92, 93, 94, 95, 96, 97, 98, 99, 100, 101, 102, 103, 104, 105, 106, 107] rfl (by decide +kernel)
set_option maxRecDepth 100000 in
theorem gX12_name_X12_own : GoodIn wsX12_name (wsV RX12 252 RX12 yX12_own wsX12_own) := goodIn_app (goodIn_of _ (by decide +kernel)) ggX12_name_X12_own
set_option maxRecDepth 100000 in
theorem ggX12_name_X12_faults : GoodIn wsX12_name wsX12_faults := goodIn_r _ [34, 13, 35, 41, 42, 43, 44, 45, 46, 47, 48, 49, 50, 51, 52, 53, 54, 55, 56, 57, 58, 59, 60, 61, 62, 63, 64, 65, 66, 67, 68, 69, 70, 71, 72, 73, 74, 75, 76, 77, 78, 79, 80, 81, 82, 83, 84, 85, 86, 87, 88, 89, 90, 91, 92, 93, 94, 95, 96, 97, 98, 99, 100, 101, 102, 103, 104, 105, 106, 107] rfl (by decide +kernel)
set_option maxRecDepth 100000 in
theorem gX12_name_X12_faults : GoodIn wsX12_name (wsV RX12 239 RX12 yX12_faults wsX12_faults) := goodIn_app (goodIn_of _ (by decide +kernel)) ggX12_name_X12_faults
set_option maxRecDepth 100000 in
theorem ggX12_digits_X12_goesWell : GoodIn wsX12_digits wsX12_goesWell := goodIn_r _ [9, 10, 34, 35, 36, 37, 38, 39, 40, 41, 42, 43, 44, 45, 46, 47, 48, 49, 50, 51, 52, 53, 54, 55, 56, 57, 58, 59, 60, 61, 62, 63, 64, 65, 66, 67, 68, 69, 70, 71, 72, 73, 74, 75, 76, 77, 78, 79, 80, 81, 82, 83, 84, 85, 86, 87, 88, 89, 90, 91, 92, 93, 94, 95, 96, 97, 98, 99, 100] rfl (by decide +kernel)
set_option maxRecDepth 100000 in
theorem gX12_digits_X12_goesWell : GoodIn wsX12_digits (wsV RX12 231 RX12 yX12_goesWell wsX12_goesWell) := goodIn_app (goodIn_of _ (by decide +kernel)) ggX12_digits_X12_goesWell
set_option maxRecDepth 100000 in
theorem ggX12_digits_X12_here : GoodIn wsX12_digits wsX12_here := goodIn_r _ [14, 1, 15, 16, 17, 8, 18, 19, 20, 34, 35, 36, 37, 38, 39, 40, 41, 42, 43, 44, 45, 46, 47, 48, 49, 50, 51, 52, 53, 54, 55, 56, 57, 58, 59, 60, 61, 62, 63, 64, 65, 66, 67, 68, 69, 70, 71, 72, 73, 74, 75, 76, 77, 78, 79, 80, 81, 82, 83, 84, 85, 86, 87, 88, 89, 90, 91, 92, 93, 94, 95, 96, 97, 98, 99, 100] rfl (by decide +kernel)
set_option maxRecDepth 100000 in
theorem gX12_digits_X12_here : GoodIn wsX12_digits (wsV RX12 235 RX12 yX12_here wsX12_here) := goodIn_app (goodIn_of _ (by decide +kernel)) ggX12_digits_X12_here
set_option maxRecDepth 100000 in
theorem ggX12_digits_X12_isDigit : GoodIn wsX12_digits wsX12_isDigit := goodIn_r _ [24, 15, 16, 17, 8, 18, 19, 20, 34, 35, 36, 37, 38, 39, 40, 41, 42, 43, 44, 45, 46, 47, 48, 49, 50, 51, 52, 53, 54, 55, 56, 57, 58, 59, 60, 61, 62, 63, 64, 65, 66, 67, 68, 69, 70, 71, 72, 73, 74, 75, 76, 77, 78, 79, 80, 81, 82, 83, 84, 85, 86, 87, 88, 89, 90, 91, 92, 93, 94, 95, 96, 97, 98, 99, 100] rfl (by decide +kernel)
set_option maxRecDepth 100000 in
theorem gX12_digits_X12_isDigit : GoodIn wsX12_digits (wsV RX12 246 RX12 yX12_isDigit wsX12_isDigit) := goodIn_app (goodIn_of _ (by decide +kernel)) ggX12_digits_X12_isDigit
set_option maxRecDepth 100000 in
theorem ggX12_digits_X12_isSmall : GoodIn wsX12_digits wsX12_isSmall := goodIn_r _ [28, 15, 16, 17, 8, 18, 19, 20, 34, 35, 36, 37, 38, 39, 40, 41, 42, 43, 44, 45, 46, 47, 48, 49, 50, 51, 52, 53, 54, 55, 56, 57, 58, 59, 60, 61, 62, 63, 64, 65, 66, 67, 68, 69, 70, 71, 72, 73, 74, 75, 76, 77, 78, 79, 80, 81, 82, 83, 84, 85, 86, 87, 88, 89, 90, 91, 92, 93, 94, 95, 96, 97, 98, 99, 100] rfl (by decide +kernel)
set_option maxRecDepth 100000 in
theorem gX12_digits_X12_isSmall : GoodIn wsX12_digits (wsV RX12 243 RX12 yX12_isSmall wsX12_isSmall) := goodIn_app (goodIn_of _ (by decide +kernel)) ggX12_digits_X12_isSmall
set_option maxRecDepth 100000 in
theorem ggX12_digits_X12_faults : GoodIn wsX12_digits wsX12_faults := goodIn_r _ [32, 10, 33, 34, 35, 36, 37, 38, 39, 40, 41, 42, 43, 44, 45, 46, 47, 48, 49, 50, 51, 52, 53, 54, 55, 56, 57, 58, 59, 60, 61, 62, 63, 64, 65, 66, 67, 68, 69, 70, 71, 72, 73, 74, 75, 76, 77, 78, 79, 80, 81, 82, 83, 84, 85, 86, 87, 88, 89, 90, 91, 92, 93, 94, 95, 96, 97, 98, 99, 100] rfl (by decide +kernel)
set_option maxRecDepth 100000 in
theorem gX12_digits_X12_faults : GoodIn wsX12_digits (wsV RX12 239 RX12 yX12_faults wsX12_faults) := goodIn_app (goodIn_of _ (by decide +kernel)) ggX12_digits_X12_faults
set_option maxRecDepth 100000 in
theorem ggX12_digits_X12_byteAt : GoodIn wsX12_digits wsX12_byteAt := goodIn_r _ [18, 19, 20, 34, 35, 36, 37, 38, 39, 40, 41, 42, 43, 44, 45, 46, 47, 48, 49, 50, 51, 52, 53, 54, 55, 56, 57, 58, 59, 60, 61, 62, 63, 64, 65, 66, 67, 68, 69, 70, 71, 72, 73, 74, 75, 76, 77, 78, 79, 80, 81, 82, 83, 84, 85, 86, 87, 88, 89, 90, 91, 92, 93, 94, 95, 96, 97, 98, 99, 100] rfl (by decide +kernel)
set_option maxRecDepth 100000 in
theorem gX12_digits_X12_byteAt : GoodIn wsX12_digits (wsV RX12 228 RX12 yX12_byteAt wsX12_byteAt) := goodIn_app (goodIn_of _ (by decide +kernel)) ggX12_digits_X12_byteAt
set_option maxRecDepth 100000 in
theorem ggX12_number_X12_digits : GoodIn wsX12_number wsX12_digits := goodIn_r _ [6, 7, 1, 8, 9, 10, 11, 12, 5, 13, 14, 15, 16, 17, 18, 19, 20, 21, 22, 23, 24, 25, 26, 27, 28, 29, 30, 31, 32, 33, 34, 35, 36, 37, 41, 42, 43, 44, 45, 46, 47, 48, 49, 50, 51, 52, 53, 54, 55, 56, 57, 58, 59, 60, 61, 62, 63, 64, 65, 66, 67, 68, 69, 70, 71, 72, 73, 74, 75, 76, 77, 78, 79, 80, 81, 82, 83, 84, 85, 86, 87, 88, 89, 90, 91, 92, 93, 94, 95, 96, 97, 98, 99, 100, 101, 102, 103, 104, 105, 106, 107] rfl (by decide +kernel)
set_option maxRecDepth 100000 in
theorem gX12_number_X12_digits : GoodIn wsX12_number (wsV RX12 259 RX12 yX12_digits wsX12_digits) := goodIn_app (goodIn_of _ (by decide +kernel)) ggX12_number_X12_digits
set_option maxRecDepth 100000 in
theorem ggX12_number_X12_goesWell : GoodIn wsX12_number wsX12_goesWell := goodIn_r _ [13, 14, 41, 42, 43, 44, 45, 46, 47, 48, 49, 50, 51, 52, 53, 54, 55, 56, 57, 58, 59, 60, 61, 62, 63, 64, 65, 66, 67, 68, 69, 70, 71, 72, 73, 74, 75, 76, 77, 78, 79, 80, 81, 82, 83, 84, 85, 86, 87, 88, 89, 90, 91, 92, 93, 94, 95, 96, 97, 98, 99, 100, 101, 102, 103, 104, 105, 106, 107] rfl (by decide +kernel)
set_option maxRecDepth 100000 in
theorem gX12_number_X12_goesWell : GoodIn wsX12_number (wsV RX12 231 RX12 yX12_goesWell wsX12_goesWell) := goodIn_app (goodIn_of _ (by decide +kernel)) ggX12_number_X12_goesWell
set_option maxRecDepth 100000 in
theorem ggX12_number_X12_isIn : GoodIn wsX12_number wsX12_isIn := goodIn_r _ [40] rfl (by decide +kernel)
set_option maxRecDepth 100000 in
theorem gX12_number_X12_isIn : GoodIn wsX12_number (va_wsS RX12 263 yX12_isIn wsX12_isIn) := goodIn_app (goodIn_of _ (by decide +kernel)) ggX12_number_X12_isIn
set_option maxRecDepth 100000 in
theorem ggX12_number_X12_faults : GoodIn wsX12_number wsX12_faults := goodIn_r _ [36, 14, 37, 41, 42, 43, 44, 45, 46, 47, 48, 49, 50, 51, 52, 53, 54, 55, 56, 57, 58, 59, 60, 61, 62, 63, 64, 65, 66, 67, 68, 69, 70, 71, 72, 73, 74, 75, 76, 77, 78, 79, 80, 81, 82, 83, 84, 85, 86, 87, 88, 89, 90, 91, 92, 93, 94, 95, 96, 97, 98, 99, 100, 101, 102, 103, 104, 105, 106, 107] rfl (by decide +kernel)
set_option maxRecDepth 100000 in
theorem gX12_number_X12_faults : GoodIn wsX12_number (wsV RX12 239 RX12 yX12_faults wsX12_faults) := goodIn_app (goodIn_of _ (by decide +kernel)) ggX12_number_X12_faults
set_option maxRecDepth 100000 in
theorem ggX12_signed_X12_goesWell : GoodIn wsX12_signed wsX12_goesWell := goodIn_r _ [7, 8, 41, 42, 43, 44, 45, 46, 47, 48, 49, 50, 51, 52, 53, 54, 55, 56, 57, 58, 59, 60, 61, 62, 63, 64, 65, 66, 67, 68, 69, 70, 71, 72, 73, 74, 75, 76, 77, 78, 79, 80, 81, 82, 83, 84, 85, 86, 87, 88, 89, 90, 91, 92, 93, 94, 95, 96, 97, 98, 99, 100, 101, 102, 103, 104, 105, 106, 107] rfl (by decide +kernel)
set_option maxRecDepth 100000 in
theorem gX12_signed_X12_goesWell : GoodIn wsX12_signed (wsV RX12 231 RX12 yX12_goesWell wsX12_goesWell) := goodIn_app (goodIn_of _ (by decide +kernel)) ggX12_signed_X12_goesWell
set_option maxRecDepth 100000 in
theorem ggX12_signed_X12_here : GoodIn wsX12_signed wsX12_here := goodIn_r _ [12, 1, 13, 14, 15, 6, 16, 17, 18, 41, 42, 43, 44, 45, 46, 47, 48, 49, 50, 51, 52, 53, 54, 55, 56, 57, 58, 59, 60, 61, 62, 63, 64, 65, 66, 67, 68, 69, 70, 71, 72, 73, 74, 75, 76, 77, 78, 79, 80, 81, 82, 83, 84, 85, 86, 87, 88, 89, 90, 91, 92, 93, 94, 95, 96, 97, 98, 99, 100, 101, 102, 103, 104, 105, 106, 107] rfl (by decide +kernel)
set_option maxRecDepth 100000 in
theorem gX12_signed_X12_here : GoodIn wsX12_signed (wsV RX12 235 RX12 yX12_here wsX12_here) := goodIn_app (goodIn_of _ (by decide +kernel)) ggX12_signed_X12_here
set_option maxRecDepth 100000 in
theorem ggX12_signed_X12_digits : GoodIn wsX12_signed wsX12_digits := goodIn_r _ [22, 1, 2, 23, 24, 3, 4, 5, 6, 7, 8, 9, 10, 11, 12, 13, 14, 15, 16, 17, 18, 25, 26, 27, 28, 29, 30, 31, 32, 33, 34, 35, 36, 37, 41, 42, 43, 44, 45, 46, 47, 48, 49, 50, 51, 52, 53, 54, 55, 56, 57, 58, 59, 60, 61, 62, 63, 64, 65, 66, 67, 68, 69, 70, 71, 72, 73, 74, 75, 76, 77, 78, 79, 80, 81, 82, 83, 84, 85, 86, 87, 88, 89, 90, 91, 92, 93, 94, 95, 96, 97, 98, 99, 100, 101, 102, 103, 104, 105, 106, 107] rfl (by decide +kernel)
set_option maxRecDepth 100000 in
theorem gX12_signed_X12_digits : GoodIn wsX12_signed (wsV RX12 259 RX12 yX12_digits wsX12_digits) := goodIn_app (goodIn_of _ (by decide +kernel)) ggX12_signed_X12_digits
set_option maxRecDepth 100000 in
theorem ggX12_signed_X12_isIn : GoodIn wsX12_signed wsX12_isIn := goodIn_r _ [40] rfl (by decide +kernel)
set_option maxRecDepth 100000 in
theorem gX12_signed_X12_isIn : GoodIn wsX12_signed (va_wsS RX12 263 yX12_isIn wsX12_isIn) := goodIn_app (goodIn_of _ (by decide +kernel)) ggX12_signed_X12_isIn
set_option maxRecDepth 100000 in
theorem ggX12_signed_X12_faults : GoodIn wsX12_signed wsX12_faults := goodIn_r _ [36, 8, 37, 41, 42, 43, 44, 45, 46, 47, 48, 49, 50, 51, 52, 53, 54, 55, 56, 57, 58, 59, 60, 61, 62, 63, 64, 65, 66, 67, 68, 69, 70, 71, 72, 73, 74, 75, 76, 77, 78, 79, 80, 81, 82, 83, 84, 85, 86, 87, 88, 89, 90, 91, 92, 93, 94, 95, 96, 97, 98, 99, 100, 101, 102, 103, 104, 105, 106, 107] rfl (by decide +kernel)
set_option maxRecDepth 100000 in
theorem gX12_signed_X12_faults : GoodIn wsX12_signed (wsV RX12 239 RX12 yX12_faults wsX12_faults) := goodIn_app (goodIn_of _ (by decide +kernel)) ggX12_signed_X12_faults
set_option maxRecDepth 100000 in
theorem ggX12_formatNamed_X12_f : GoodIn wsX12_formatNamed wsX12_f := goodIn_r _ [8, 2, 9, 10, 11, 12, 13, 14, 15, 16, 17, 18, 19, 20, 21, 22, 23, 24, 25, 26, 27, 28, 29, 30, 31, 32, 33, 34, 35, 36, 37, 38, 39, 40, 41, 42, 43, 44, 45, 46, 47, 48, 49, 50, 51, 52, 53, 54, 55, 56, 57, 58, 59, 60, 61, 62, 63, 64, 65, 66, 67, 68, 69, 70, 71, 72, 73, 74, 75] rfl (by decide +kernel)
set_option maxRecDepth 100000 in
theorem gX12_formatNamed_X12_f : GoodIn wsX12_formatNamed (wsV RX12 267 RX12 yX12_f wsX12_f) := goodIn_app (goodIn_of _ (by decide +kernel)) ggX12_formatNamed_X12_f
set_option maxRecDepth 100000 in
theorem ggX12_numberNamed_X12_n : GoodIn wsX12_numberNamed wsX12_n := goodIn_r _ [8, 2, 9, 10, 11, 12, 13, 14, 15, 16, 17, 18, 19, 20, 21, 22, 23, 24, 25, 26, 27, 28, 29, 30, 31, 32, 33, 34, 35, 36, 37, 38, 39, 40, 41, 42, 43, 44, 45, 46, 47, 48, 49, 50, 51, 52, 53, 54, 55, 56, 57, 58, 59, 60, 61, 62, 63, 64, 65, 66, 67, 68, 69, 70, 71, 72, 73, 74, 75] rfl (by decide +kernel)
set_option maxRecDepth 100000 in
theorem gX12_numberNamed_X12_n : GoodIn wsX12_numberNamed (wsV RX12 270 RX12 yX12_n wsX12_n) := goodIn_app (goodIn_of _ (by decide +kernel)) ggX12_numberNamed_X12_n
set_option maxRecDepth 100000 in
theorem ggX12_newName_X12_name : GoodIn wsX12_newName wsX12_name := goodIn_r _ [6, 7, 1, 8, 9, 10, 11, 5, 12, 13, 14, 15, 16, 17, 18, 19, 20, 21, 22, 23, 24, 25, 26, 27, 28, 29, 30, 31, 32, 33, 34, 35, 36, 37, 38, 39, 40, 41, 42, 43, 44, 66, 67, 68, 69, 70, 71, 72, 73, 74, 75, 76, 77, 78, 79, 80, 81, 82, 83, 84, 85, 86, 87, 88, 89, 90, 91, 92, 93, 94, 95, 96, 97, 98, 99, 100, 101, 102, 103, 104, 105, 106, 107, 108, 109, 110, 111, 112, 113, 114, 115, 116, 117, 118, 119, 120, 121, 122, 123, 124, 125, 126, 127, 128, 129, 130, 131, 132] rfl (by decide +kernel)
set_option maxRecDepth 100000 in
theorem gX12_newName_X12_name : GoodIn wsX12_newName (wsV RX12 273 RX12 yX12_name wsX12_name) := goodIn_app (goodIn_of _ (by decide +kernel)) ggX12_newName_X12_name
set_option maxRecDepth 100000 in
theorem ggX12_newName_X12_goesWell : GoodIn wsX12_newName wsX12_goesWell := goodIn_r _ [16, 17, 66, 67, 68, 69, 70, 71, 72, 73, 74, 75, 76, 77, 78, 79, 80, 81, 82, 83, 84, 85, 86, 87, 88, 89, 90, 91, 92, 93, 94, 95, 96, 97, 98, 99, 100, 101, 102, 103, 104, 105, 106, 107, 108, 109, 110, 111, 112, 113, 114, 115, 116, 117, 118, 119, 120, 121, 122, 123, 124, 125, 126, 127, 128, 129, 130, 131, 132] rfl (by decide +kernel)
set_option maxRecDepth 100000 in
theorem gX12_newName_X12_goesWell : GoodIn wsX12_newName (wsV RX12 231 RX12 yX12_goesWell wsX12_goesWell) := goodIn_app (goodIn_of _ (by decide +kernel)) ggX12_newName_X12_goesWell
set_option maxRecDepth 100000 in
theorem ggX12_newName_X12_formatNamed : GoodIn wsX12_newName wsX12_formatNamed := goodIn_r _ [48, 49, 50, 51, 52, 53, 54, 5, 55, 66, 67, 68, 69, 70, 71, 72, 73, 74, 75, 76, 77, 78, 79, 80, 81, 82, 83, 84, 85, 86, 87, 88, 89, 90, 91, 92, 93, 94, 95, 96, 97, 98, 99, 100, 101, 102, 103, 104, 105, 106, 107, 108, 109, 110, 111, 112, 113, 114, 115, 116, 117, 118, 119, 120, 121, 122, 123, 124, 125, 126, 127, 128, 129, 130, 131, 132] rfl (by decide +kernel)
set_option maxRecDepth 100000 in
theorem gX12_newName_X12_formatNamed : GoodIn wsX12_newName (wsV RX12 276 RX12 yX12_formatNamed wsX12_formatNamed) := goodIn_app (goodIn_of _ (by decide +kernel)) ggX12_newName_X12_formatNamed
set_option maxRecDepth 100000 in
theorem ggX12_newName_X12_numberNamed : GoodIn wsX12_newName wsX12_numberNamed := goodIn_r _ [59, 60, 50, 61, 62, 63, 64, 5, 65, 66, 67, 68, 69, 70, 71, 72, 73, 74, 75, 76, 77, 78, 79, 80, 81, 82, 83, 84, 85, 86, 87, 88, 89, 90, 91, 92, 93, 94, 95, 96, 97, 98, 99, 100, 101, 102, 103, 104, 105, 106, 107, 108, 109, 110, 111, 112, 113, 114, 115, 116, 117, 118, 119, 120, 121, 122, 123, 124, 125, 126, 127, 128, 129, 130, 131, 132] rfl (by decide +kernel)
set_option maxRecDepth 100000 in
theorem gX12_newName_X12_numberNamed : GoodIn wsX12_newName (wsV RX12 279 RX12 yX12_numberNamed wsX12_numberNamed) := goodIn_app (goodIn_of _ (by decide +kernel)) ggX12_newName_X12_numberNamed
set_option maxRecDepth 100000 in
theorem ggX12_newName_X12_faults : GoodIn wsX12_newName wsX12_faults := goodIn_r _ [38, 17, 39, 66, 67, 68, 69, 70, 71, 72, 73, 74, 75, 76, 77, 78, 79, 80, 81, 82, 83, 84, 85, 86, 87, 88, 89, 90, 91, 92, 93, 94, 95, 96, 97, 98, 99, 100, 101, 102, 103, 104, 105, 106, 107, 108, 109, 110, 111, 112, 113, 114, 115, 116, 117, 118, 119, 120, 121, 122, 123, 124, 125, 126, 127, 128, 129, 130, 131, 132] rfl (by decide +kernel)
set_option maxRecDepth 100000 in
theorem gX12_newName_X12_faults : GoodIn wsX12_newName (wsV RX12 239 RX12 yX12_faults wsX12_faults) := goodIn_app (goodIn_of _ (by decide +kernel)) ggX12_newName_X12_faults
set_option maxRecDepth 100000 in
theorem ggX12_toldNumber_X12_name : GoodIn wsX12_toldNumber wsX12_name := goodIn_r _ [6, 7, 1, 8, 9, 10, 11, 5, 12, 13, 14, 15, 16, 17, 18, 19, 20, 21, 22, 23, 24, 25, 26, 27, 28, 29, 30, 31, 32, 33, 34, 35, 36, 37, 38, 39, 40, 41, 42, 43, 44, 56, 57, 58, 59, 60, 61, 62, 63, 64, 65, 66, 67, 68, 69, 70, 71, 72, 73, 74, 75, 76, 77, 78, 79, 80, 81, 82, 83, 84, 85, 86, 87, 88, 89, 90, 91, 92, 93, 94, 95, 96, 97, 98, 99, 100, 101, 102, 103, 104, 105, 106, 107, 108, 109, 110, 111, 112, 113, 114, 115, 116, 117, 118, 119, 120, 121, 122] rfl (by decide +kernel)
set_option maxRecDepth 100000 in
theorem gX12_toldNumber_X12_name : GoodIn wsX12_toldNumber (wsV RX12 273 RX12 yX12_name wsX12_name) := goodIn_app (goodIn_of _ (by decide +kernel)) ggX12_toldNumber_X12_name
set_option maxRecDepth 100000 in
theorem ggX12_toldNumber_X12_goesWell : GoodIn wsX12_toldNumber wsX12_goesWell := goodIn_r _ [16, 17, 56, 57, 58, 59, 60, 61, 62, 63, 64, 65, 66, 67, 68, 69, 70, 71, 72, 73, 74, 75, 76, 77, 78, 79, 80, 81, 82, 83, 84, 85, 86, 87, 88, 89, 90, 91, 92, 93, 94, 95, 96, 97, 98, 99, 100, 101, 102, 103, 104, 105, 106, 107, 108, 109, 110, 111, 112, 113, 114, 115, 116, 117, 118, 119, 120, 121, 122] rfl (by decide +kernel)
set_option maxRecDepth 100000 in
theorem gX12_toldNumber_X12_goesWell : GoodIn wsX12_toldNumber (wsV RX12 231 RX12 yX12_goesWell wsX12_goesWell) := goodIn_app (goodIn_of _ (by decide +kernel)) ggX12_toldNumber_X12_goesWell
set_option maxRecDepth 100000 in
theorem ggX12_toldNumber_X12_numberNamed : GoodIn wsX12_toldNumber wsX12_numberNamed := goodIn_r _ [48, 49, 50, 51, 52, 53, 54, 5, 55, 56, 57, 58, 59, 60, 61, 62, 63, 64, 65, 66, 67, 68, 69, 70, 71, 72, 73, 74, 75, 76, 77, 78, 79, 80, 81, 82, 83, 84, 85, 86, 87, 88, 89, 90, 91, 92, 93, 94, 95, 96, 97, 98, 99, 100, 101, 102, 103, 104, 105, 106, 107, 108, 109, 110, 111, 112, 113, 114, 115, 116, 117, 118, 119, 120, 121, 122] rfl (by decide +kernel)
set_option maxRecDepth 100000 in
theorem gX12_toldNumber_X12_numberNamed : GoodIn wsX12_toldNumber (wsV RX12 279 RX12 yX12_numberNamed wsX12_numberNamed) := goodIn_app (goodIn_of _ (by decide +kernel)) ggX12_toldNumber_X12_numberNamed
set_option maxRecDepth 100000 in
theorem ggX12_toldNumber_X12_faults : GoodIn wsX12_toldNumber wsX12_faults := goodIn_r _ [38, 17, 39, 56, 57, 58, 59, 60, 61, 62, 63, 64, 65, 66, 67, 68, 69, 70, 71, 72, 73, 74, 75, 76, 77, 78, 79, 80, 81, 82, 83, 84, 85, 86, 87, 88, 89, 90, 91, 92, 93, 94, 95, 96, 97, 98, 99, 100, 101, 102, 103, 104, 105, 106, 107, 108, 109, 110, 111, 112, 113, 114, 115, 116, 117, 118, 119, 120, 121, 122] rfl (by decide +kernel)
set_option maxRecDepth 100000 in
theorem gX12_toldNumber_X12_faults : GoodIn wsX12_toldNumber (wsV RX12 239 RX12 yX12_faults wsX12_faults) := goodIn_app (goodIn_of _ (by decide +kernel)) ggX12_toldNumber_X12_faults
set_option maxRecDepth 100000 in
theorem ggX12_readsFormat_X12_newName : GoodIn wsX12_readsFormat wsX12_newName := goodIn_r _ [15, 3, 16, 17, 18, 14, 19, 20, 21, 22, 23, 24, 25, 26, 27, 28, 29, 30, 31, 32, 33, 34, 35, 36, 37, 38, 39, 40, 41, 42, 43, 44, 45, 46, 47, 48, 49, 50, 51, 52, 53, 54, 55, 56, 57, 58, 59, 60, 61, 5, 6, 7, 62, 63, 64, 65, 66, 67, 68, 69, 70, 71, 72, 73, 74, 75, 93, 94, 95, 96, 97, 98, 99, 100, 101, 102, 103, 104, 105, 106, 107, 108, 109, 110, 111, 112, 113, 114, 115, 116, 117, 118, 119, 120, 121, 122, 123, 124, 125, 126, 127, 128, 129, 130, 131, 132, 133, 134, 135, 136, 137, 138, 139, 140, 141, 142, 143, 144, 145, 146, 147, 148, 149, 150, 151, 152, 153, 154, 155, 156, 157, 158, 159] rfl (by decide +kernel)
set_option maxRecDepth 100000 in
theorem gX12_readsFormat_X12_newName : GoodIn wsX12_readsFormat (wsV RX12 282 RX12 yX12_newName wsX12_newName) := goodIn_app (goodIn_of _ (by decide +kernel)) ggX12_readsFormat_X12_newName
set_option maxRecDepth 100000 in
theorem ggX12_readsFormat_X12_must : GoodIn wsX12_readsFormat wsX12_must := goodIn_r _ [79, 3, 22, 23, 24, 14, 25, 20, 26, 27, 28, 29, 30, 31, 32, 33, 34, 35, 36, 37, 38, 39, 21, 40, 41, 42, 43, 44, 45, 46, 47, 48, 49, 50, 51, 52, 53, 54, 55, 56, 57, 93, 94, 95, 96, 97, 98, 99, 100, 101, 102, 103, 104, 105, 106, 107, 108, 109, 110, 111, 112, 113, 114, 115, 116, 117, 118, 119, 120, 121, 122, 123, 124, 125, 126, 127, 128, 129, 130, 131, 132, 133, 134, 135, 136, 137, 138, 139, 140, 141, 142, 143, 144, 145, 146, 147, 148, 149, 150, 151, 152, 153, 154, 155, 156, 157, 158, 159] rfl (by decide +kernel)
set_option maxRecDepth 100000 in
theorem gX12_readsFormat_X12_must : GoodIn wsX12_readsFormat (wsV RX12 285 RX12 yX12_must wsX12_must) := goodIn_app (goodIn_of _ (by decide +kernel)) ggX12_readsFormat_X12_must
set_option maxRecDepth 100000 in
theorem ggX12_readsFormat_X12_number : GoodIn wsX12_readsFormat wsX12_number := goodIn_r _ [83, 3, 84, 85, 86, 14, 87, 20, 88, 89, 26, 27, 28, 29, 30, 31, 32, 33, 34, 35, 36, 37, 38, 39, 21, 44, 45, 46, 47, 40, 41, 42, 43, 48, 49, 50, 51, 52, 90, 91, 92, 93, 94, 95, 96, 97, 98, 99, 100, 101, 102, 103, 104, 105, 106, 107, 108, 109, 110, 111, 112, 113, 114, 115, 116, 117, 118, 119, 120, 121, 122, 123, 124, 125, 126, 127, 128, 129, 130, 131, 132, 133, 134, 135, 136, 137, 138, 139, 140, 141, 142, 143, 144, 145, 146, 147, 148, 149, 150, 151, 152, 153, 154, 155, 156, 157, 158, 159] rfl (by decide +kernel)
set_option maxRecDepth 100000 in
theorem gX12_readsFormat_X12_number : GoodIn wsX12_readsFormat (wsV RX12 290 RX12 yX12_number wsX12_number) := goodIn_app (goodIn_of _ (by decide +kernel)) ggX12_readsFormat_X12_number
set_option maxRecDepth 100000 in
theorem ggX12_readsFormat_X12_digits : GoodIn wsX12_readsFormat wsX12_digits := goodIn_r _ [87, 20, 3, 88, 89, 26, 27, 28, 14, 29, 30, 31, 32, 33, 34, 35, 36, 37, 38, 39, 21, 44, 45, 46, 47, 40, 41, 42, 43, 48, 49, 50, 51, 52, 93, 94, 95, 96, 97, 98, 99, 100, 101, 102, 103, 104, 105, 106, 107, 108, 109, 110, 111, 112, 113, 114, 115, 116, 117, 118, 119, 120, 121, 122, 123, 124, 125, 126, 127, 128, 129, 130, 131, 132, 133, 134, 135, 136, 137, 138, 139, 140, 141, 142, 143, 144, 145, 146, 147, 148, 149, 150, 151, 152, 153, 154, 155, 156, 157, 158, 159] rfl (by decide +kernel)
set_option maxRecDepth 100000 in
theorem gX12_readsFormat_X12_digits : GoodIn wsX12_readsFormat (wsV RX12 259 RX12 yX12_digits wsX12_digits) := goodIn_app (goodIn_of _ (by decide +kernel)) ggX12_readsFormat_X12_digits
set_option maxRecDepth 100000 in
theorem ggX12_readsFormat_X12_goesWell : GoodIn wsX12_readsFormat wsX12_goesWell := goodIn_r _ [29, 30, 93, 94, 95, 96, 97, 98, 99, 100, 101, 102, 103, 104, 105, 106, 107, 108, 109, 110, 111, 112, 113, 114, 115, 116, 117, 118, 119, 120, 121, 122, 123, 124, 125, 126, 127, 128, 129, 130, 131, 132, 133, 134, 135, 136, 137, 138, 139, 140, 141, 142, 143, 144, 145, 146, 147, 148, 149, 150, 151, 152, 153, 154, 155, 156, 157, 158, 159] rfl (by decide +kernel)
set_option maxRecDepth 100000 in
theorem gX12_readsFormat_X12_goesWell : GoodIn wsX12_readsFormat (wsV RX12 231 RX12 yX12_goesWell wsX12_goesWell) := goodIn_app (goodIn_of _ (by decide +kernel)) ggX12_readsFormat_X12_goesWell
set_option maxRecDepth 100000 in
theorem ggX12_readsFormat_X12_isIn : GoodIn wsX12_readsFormat wsX12_isIn := goodIn_r _ [92] rfl (by decide +kernel)
set_option maxRecDepth 100000 in
theorem gX12_readsFormat_X12_isIn : GoodIn wsX12_readsFormat (va_wsS RX12 263 yX12_isIn wsX12_isIn) := goodIn_app (goodIn_of _ (by decide +kernel)) ggX12_readsFormat_X12_isIn
set_option maxRecDepth 100000 in
theorem ggX12_readsFormat_X12_faults : GoodIn wsX12_readsFormat wsX12_faults := goodIn_r _ [51, 30, 52, 93, 94, 95, 96, 97, 98, 99, 100, 101, 102, 103, 104, 105, 106, 107, 108, 109, 110, 111, 112, 113, 114, 115, 116, 117, 118, 119, 120, 121, 122, 123, 124, 125, 126, 127, 128, 129, 130, 131, 132, 133, 134, 135, 136, 137, 138, 139, 140, 141, 142, 143, 144, 145, 146, 147, 148, 149, 150, 151, 152, 153, 154, 155, 156, 157, 158, 159] rfl (by decide +kernel)
set_option maxRecDepth 100000 in
theorem gX12_readsFormat_X12_faults : GoodIn wsX12_readsFormat (wsV RX12 239 RX12 yX12_faults wsX12_faults) := goodIn_app (goodIn_of _ (by decide +kernel)) ggX12_readsFormat_X12_faults
set_option maxRecDepth 100000 in
theorem ggX12_readsFormat_X12_f : GoodIn wsX12_readsFormat wsX12_f := goodIn_r _ [65, 6, 93, 94, 95, 96, 97, 98, 99, 100, 101, 102, 103, 104, 105, 106, 107, 108, 109, 110, 111, 112, 113, 114, 115, 116, 117, 118, 119, 120, 121, 122, 123, 124, 125, 126, 127, 128, 129, 130, 131, 132, 133, 134, 135, 136, 137, 138, 139, 140, 141, 142, 143, 144, 145, 146, 147, 148, 149, 150, 151, 152, 153, 154, 155, 156, 157, 158, 159] rfl (by decide +kernel)
set_option maxRecDepth 100000 in
theorem gX12_readsFormat_X12_f : GoodIn wsX12_readsFormat (wsV RX12 267 RX12 yX12_f wsX12_f) := goodIn_app (goodIn_of _ (by decide +kernel)) ggX12_readsFormat_X12_f
set_option maxRecDepth 100000 in
theorem ggX12_newNumber_X12_n : GoodIn wsX12_newNumber wsX12_n := goodIn_r _ [14, 2, 15, 16, 17, 18, 19, 20, 21, 22, 23, 24, 25, 26, 27, 28, 29, 30, 31, 32, 33, 34, 35, 36, 37, 38, 39, 40, 41, 42, 43, 44, 45, 46, 47, 48, 49, 50, 51, 52, 53, 54, 55, 56, 57, 58, 59, 60, 61, 62, 63, 64, 65, 66, 67, 68, 69, 70, 71, 72, 73, 74, 75, 76, 77, 78, 79, 80, 81] rfl (by decide +kernel)
set_option maxRecDepth 100000 in
theorem gX12_newNumber_X12_n : GoodIn wsX12_newNumber (wsV RX12 270 RX12 yX12_n wsX12_n) := goodIn_app (goodIn_of _ (by decide +kernel)) ggX12_newNumber_X12_n
set_option maxRecDepth 100000 in
theorem ggX12_readsInput_X12_newName : GoodIn wsX12_readsInput wsX12_newName := goodIn_r _ [12, 3, 13, 14, 15, 11, 16, 17, 18, 19, 20, 21, 22, 23, 24, 25, 26, 27, 28, 29, 30, 31, 32, 33, 34, 35, 36, 37, 38, 39, 40, 41, 42, 43, 44, 45, 46, 47, 48, 49, 50, 51, 52, 53, 54, 55, 56, 57, 58, 59, 6, 60, 61, 62, 63, 64, 65, 66, 67, 68, 5, 69, 70, 71, 72, 73, 97, 98, 99, 100, 101, 102, 103, 104, 105, 106, 107, 108, 109, 110, 111, 112, 113, 114, 115, 116, 117, 118, 119, 120, 121, 122, 123, 124, 125, 126, 127, 128, 129, 130, 131, 132, 133, 134, 135, 136, 137, 138, 139, 140, 141, 142, 143, 144, 145, 146, 147, 148, 149, 150, 151, 152, 153, 154, 155, 156, 157, 158, 159, 160, 161, 162, 163] rfl (by decide +kernel)
set_option maxRecDepth 100000 in
theorem gX12_readsInput_X12_newName : GoodIn wsX12_readsInput (wsV RX12 282 RX12 yX12_newName wsX12_newName) := goodIn_app (goodIn_of _ (by decide +kernel)) ggX12_readsInput_X12_newName
set_option maxRecDepth 100000 in
theorem ggX12_readsInput_X12_signed : GoodIn wsX12_readsInput wsX12_signed := goodIn_r _ [77, 17, 3, 23, 24, 25, 11, 26, 27, 28, 29, 30, 31, 32, 33, 34, 35, 36, 18, 78, 79, 80, 81, 82, 83, 41, 42, 43, 44, 37, 38, 39, 40, 45, 46, 47, 48, 49, 84, 85, 86, 97, 98, 99, 100, 101, 102, 103, 104, 105, 106, 107, 108, 109, 110, 111, 112, 113, 114, 115, 116, 117, 118, 119, 120, 121, 122, 123, 124, 125, 126, 127, 128, 129, 130, 131, 132, 133, 134, 135, 136, 137, 138, 139, 140, 141, 142, 143, 144, 145, 146, 147, 148, 149, 150, 151, 152, 153, 154, 155, 156, 157, 158, 159, 160, 161, 162, 163] rfl (by decide +kernel)
set_option maxRecDepth 100000 in
theorem gX12_readsInput_X12_signed : GoodIn wsX12_readsInput (wsV RX12 302 RX12 yX12_signed wsX12_signed) := goodIn_app (goodIn_of _ (by decide +kernel)) ggX12_readsInput_X12_signed
set_option maxRecDepth 100000 in
theorem ggX12_readsInput_X12_goesWell : GoodIn wsX12_readsInput wsX12_goesWell := goodIn_r _ [26, 27, 97, 98, 99, 100, 101, 102, 103, 104, 105, 106, 107, 108, 109, 110, 111, 112, 113, 114, 115, 116, 117, 118, 119, 120, 121, 122, 123, 124, 125, 126, 127, 128, 129, 130, 131, 132, 133, 134, 135, 136, 137, 138, 139, 140, 141, 142, 143, 144, 145, 146, 147, 148, 149, 150, 151, 152, 153, 154, 155, 156, 157, 158, 159, 160, 161, 162, 163] rfl (by decide +kernel)
set_option maxRecDepth 100000 in
theorem gX12_readsInput_X12_goesWell : GoodIn wsX12_readsInput (wsV RX12 231 RX12 yX12_goesWell wsX12_goesWell) := goodIn_app (goodIn_of _ (by decide +kernel)) ggX12_readsInput_X12_goesWell
set_option maxRecDepth 100000 in
theorem ggX12_readsInput_X12_faults : GoodIn wsX12_readsInput wsX12_faults := goodIn_r _ [48, 27, 49, 97, 98, 99, 100, 101, 102, 103, 104, 105, 106, 107, 108, 109, 110, 111, 112, 113, 114, 115, 116, 117, 118, 119, 120, 121, 122, 123, 124, 125, 126, 127, 128, 129, 130, 131, 132, 133, 134, 135, 136, 137, 138, 139, 140, 141, 142, 143, 144, 145, 146, 147, 148, 149, 150, 151, 152, 153, 154, 155, 156, 157, 158, 159, 160, 161, 162, 163] rfl (by decide +kernel)
set_option maxRecDepth 100000 in
theorem gX12_readsInput_X12_faults : GoodIn wsX12_readsInput (wsV RX12 239 RX12 yX12_faults wsX12_faults) := goodIn_app (goodIn_of _ (by decide +kernel)) ggX12_readsInput_X12_faults
set_option maxRecDepth 100000 in
theorem ggX12_readsInput_X12_newNumber : GoodIn wsX12_readsInput wsX12_newNumber := goodIn_r _ [90, 5, 6, 69, 91, 92, 93, 94, 95, 96, 70, 71, 72, 11, 73, 97, 98, 99, 100, 101, 102, 103, 104, 105, 106, 107, 108, 109, 110, 111, 112, 113, 114, 115, 116, 117, 118, 119, 120, 121, 122, 123, 124, 125, 126, 127, 128, 129, 130, 131, 132, 133, 134, 135, 136, 137, 138, 139, 140, 141, 142, 143, 144, 145, 146, 147, 148, 149, 150, 151, 152, 153, 154, 155, 156, 157, 158, 159, 160, 161, 162, 163] rfl (by decide +kernel)
set_option maxRecDepth 100000 in
theorem gX12_readsInput_X12_newNumber : GoodIn wsX12_readsInput (wsV RX12 305 RX12 yX12_newNumber wsX12_newNumber) := goodIn_app (goodIn_of _ (by decide +kernel)) ggX12_readsInput_X12_newNumber
set_option maxRecDepth 100000 in
theorem ggX12_readsInput_X12_n : GoodIn wsX12_readsInput wsX12_n := goodIn_r _ [73, 6, 97, 98, 99, 100, 101, 102, 103, 104, 105, 106, 107, 108, 109, 110, 111, 112, 113, 114, 115, 116, 117, 118, 119, 120, 121, 122, 123, 124, 125, 126, 127, 128, 129, 130, 131, 132, 133, 134, 135, 136, 137, 138, 139, 140, 141, 142, 143, 144, 145, 146, 147, 148, 149, 150, 151, 152, 153, 154, 155, 156, 157, 158, 159, 160, 161, 162, 163] rfl (by decide +kernel)
set_option maxRecDepth 100000 in
theorem gX12_readsInput_X12_n : GoodIn wsX12_readsInput (wsV RX12 270 RX12 yX12_n wsX12_n) := goodIn_app (goodIn_of _ (by decide +kernel)) ggX12_readsInput_X12_n
set_option maxRecDepth 100000 in
theorem ggX12_readsWhat_X12_goesWell : GoodIn wsX12_readsWhat wsX12_goesWell := goodIn_r _ [9, 10, 76, 77, 78, 79, 80, 81, 82, 83, 84, 85, 86, 87, 88, 89, 90, 91, 92, 93, 94, 95, 96, 97, 98, 99, 100, 101, 102, 103, 104, 105, 106, 107, 108, 109, 110, 111, 112, 113, 114, 115, 116, 117, 118, 119, 120, 121, 122, 123, 124, 125, 126, 127, 128, 129, 130, 131, 132, 133, 134, 135, 136, 137, 138, 139, 140, 141, 142] rfl (by decide +kernel)
set_option maxRecDepth 100000 in
theorem gX12_readsWhat_X12_goesWell : GoodIn wsX12_readsWhat (wsV RX12 231 RX12 yX12_goesWell wsX12_goesWell) := goodIn_app (goodIn_of _ (by decide +kernel)) ggX12_readsWhat_X12_goesWell
set_option maxRecDepth 100000 in
theorem ggX12_readsWhat_X12_here : GoodIn wsX12_readsWhat wsX12_here := goodIn_r _ [14, 2, 15, 16, 17, 8, 18, 19, 20, 76, 77, 78, 79, 80, 81, 82, 83, 84, 85, 86, 87, 88, 89, 90, 91, 92, 93, 94, 95, 96, 97, 98, 99, 100, 101, 102, 103, 104, 105, 106, 107, 108, 109, 110, 111, 112, 113, 114, 115, 116, 117, 118, 119, 120, 121, 122, 123, 124, 125, 126, 127, 128, 129, 130, 131, 132, 133, 134, 135, 136, 137, 138, 139, 140, 141, 142] rfl (by decide +kernel)
set_option maxRecDepth 100000 in
theorem gX12_readsWhat_X12_here : GoodIn wsX12_readsWhat (wsV RX12 235 RX12 yX12_here wsX12_here) := goodIn_app (goodIn_of _ (by decide +kernel)) ggX12_readsWhat_X12_here
set_option maxRecDepth 100000 in
theorem ggX12_readsWhat_X12_isDigit : GoodIn wsX12_readsWhat wsX12_isDigit := goodIn_r _ [24, 15, 16, 17, 8, 18, 19, 20, 76, 77, 78, 79, 80, 81, 82, 83, 84, 85, 86, 87, 88, 89, 90, 91, 92, 93, 94, 95, 96, 97, 98, 99, 100, 101, 102, 103, 104, 105, 106, 107, 108, 109, 110, 111, 112, 113, 114, 115, 116, 117, 118, 119, 120, 121, 122, 123, 124, 125, 126, 127, 128, 129, 130, 131, 132, 133, 134, 135, 136, 137, 138, 139, 140, 141, 142] rfl (by decide +kernel)
set_option maxRecDepth 100000 in
theorem gX12_readsWhat_X12_isDigit : GoodIn wsX12_readsWhat (wsV RX12 246 RX12 yX12_isDigit wsX12_isDigit) := goodIn_app (goodIn_of _ (by decide +kernel)) ggX12_readsWhat_X12_isDigit
set_option maxRecDepth 100000 in
theorem ggX12_readsWhat_X12_signed : GoodIn wsX12_readsWhat wsX12_signed := goodIn_r _ [28, 2, 29, 5, 6, 7, 8, 9, 10, 11, 12, 13, 14, 15, 16, 17, 18, 19, 20, 30, 31, 32, 33, 34, 35, 21, 22, 23, 24, 36, 37, 38, 39, 40, 41, 42, 43, 44, 45, 46, 47, 76, 77, 78, 79, 80, 81, 82, 83, 84, 85, 86, 87, 88, 89, 90, 91, 92, 93, 94, 95, 96, 97, 98, 99, 100, 101, 102, 103, 104, 105, 106, 107, 108, 109, 110, 111, 112, 113, 114, 115, 116, 117, 118, 119, 120, 121, 122, 123, 124, 125, 126, 127, 128, 129, 130, 131, 132, 133, 134, 135, 136, 137, 138, 139, 140, 141, 142] rfl (by decide +kernel)
set_option maxRecDepth 100000 in
theorem gX12_readsWhat_X12_signed : GoodIn wsX12_readsWhat (wsV RX12 302 RX12 yX12_signed wsX12_signed) := goodIn_app (goodIn_of _ (by decide +kernel)) ggX12_readsWhat_X12_signed
set_option maxRecDepth 100000 in
theorem ggX12_readsWhat_X12_toldNumber : GoodIn wsX12_readsWhat wsX12_toldNumber := goodIn_r _ [51, 29, 52, 53, 54, 8, 55, 2, 20, 56, 57, 58, 59, 5, 6, 7, 9, 10, 11, 12, 13, 14, 15, 16, 17, 18, 19, 36, 37, 38, 39, 21, 22, 23, 24, 40, 41, 42, 43, 44, 60, 61, 62, 63, 64, 65, 66, 67, 68, 69, 70, 71, 72, 73, 74, 75, 76, 77, 78, 79, 80, 81, 82, 83, 84, 85, 86, 87, 88, 89, 90, 91, 92, 93, 94, 95, 96, 97, 98, 99, 100, 101, 102, 103, 104, 105, 106, 107, 108, 109, 110, 111, 112, 113, 114, 115, 116, 117, 118, 119, 120, 121, 122, 123, 124, 125, 126, 127, 128, 129, 130, 131, 132, 133, 134, 135, 136, 137, 138, 139, 140, 141, 142] rfl (by decide +kernel)
set_option maxRecDepth 100000 in
theorem gX12_readsWhat_X12_toldNumber : GoodIn wsX12_readsWhat (wsV RX12 310 RX12 yX12_toldNumber wsX12_toldNumber) := goodIn_app (goodIn_of _ (by decide +kernel)) ggX12_readsWhat_X12_toldNumber
set_option maxRecDepth 100000 in
theorem ggX12_readsOp_X12_goesWell : GoodIn wsX12_readsOp wsX12_goesWell := goodIn_r _ [7, 8, 41, 42, 43, 44, 45, 46, 47, 48, 49, 50, 51, 52, 53, 54, 55, 56, 57, 58, 59, 60, 61, 62, 63, 64, 65, 66, 67, 68, 69, 70, 71, 72, 73, 74, 75, 76, 77, 78, 79, 80, 81, 82, 83, 84, 85, 86, 87, 88, 89, 90, 91, 92, 93, 94, 95, 96, 97, 98, 99, 100, 101, 102, 103, 104, 105, 106, 107] rfl (by decide +kernel)
set_option maxRecDepth 100000 in
theorem gX12_readsOp_X12_goesWell : GoodIn wsX12_readsOp (wsV RX12 231 RX12 yX12_goesWell wsX12_goesWell) := goodIn_app (goodIn_of _ (by decide +kernel)) ggX12_readsOp_X12_goesWell
set_option maxRecDepth 100000 in
theorem ggX12_readsOp_X12_here : GoodIn wsX12_readsOp wsX12_here := goodIn_r _ [12, 1, 13, 14, 15, 6, 16, 17, 18, 41, 42, 43, 44, 45, 46, 47, 48, 49, 50, 51, 52, 53, 54, 55, 56, 57, 58, 59, 60, 61, 62, 63, 64, 65, 66, 67, 68, 69, 70, 71, 72, 73, 74, 75, 76, 77, 78, 79, 80, 81, 82, 83, 84, 85, 86, 87, 88, 89, 90, 91, 92, 93, 94, 95, 96, 97, 98, 99, 100, 101, 102, 103, 104, 105, 106, 107] rfl (by decide +kernel)
set_option maxRecDepth 100000 in
theorem gX12_readsOp_X12_here : GoodIn wsX12_readsOp (wsV RX12 235 RX12 yX12_here wsX12_here) := goodIn_app (goodIn_of _ (by decide +kernel)) ggX12_readsOp_X12_here
set_option maxRecDepth 100000 in
theorem ggX12_readsOp_X12_word : GoodIn wsX12_readsOp wsX12_word := goodIn_r _ [22, 1, 2, 3, 4, 5, 6, 7, 8, 9, 10, 11, 12, 13, 14, 15, 16, 17, 18, 23, 24, 25, 26, 27, 28, 29, 30, 31, 32, 33, 34, 35, 41, 42, 43, 44, 45, 46, 47, 48, 49, 50, 51, 52, 53, 54, 55, 56, 57, 58, 59, 60, 61, 62, 63, 64, 65, 66, 67, 68, 69, 70, 71, 72, 73, 74, 75, 76, 77, 78, 79, 80, 81, 82, 83, 84, 85, 86, 87, 88, 89, 90, 91, 92, 93, 94, 95, 96, 97, 98, 99, 100, 101, 102, 103, 104, 105, 106, 107] rfl (by decide +kernel)
set_option maxRecDepth 100000 in
theorem gX12_readsOp_X12_word : GoodIn wsX12_readsOp (wsV RX12 249 RX12 yX12_word wsX12_word) := goodIn_app (goodIn_of _ (by decide +kernel)) ggX12_readsOp_X12_word
set_option maxRecDepth 100000 in
theorem ggX12_readsOp_X12_own : GoodIn wsX12_readsOp wsX12_own := goodIn_r _ [39, 40, 2, 1, 18, 41, 42, 43, 44, 45, 46, 47, 48, 49, 50, 51, 52, 53, 54, 55, 56, 57, 58, 59, 60, 61, 62, 63, 64, 65, 66, 67, 68, 69, 70, 71, 72, 73, 74, 75, 76, 77, 78, 79, 80, 81, 82, 83, 84, 85, 86, 87, 88, 89, 90, 91, 92, 93, 94, 95, 96, 97, 98, 99, 100, 101, 102, 103, 104, 105, 106, 107] rfl (by decide +kernel)
set_option maxRecDepth 100000 in
theorem gX12_readsOp_X12_own : GoodIn wsX12_readsOp (wsV RX12 252 RX12 yX12_own wsX12_own) := goodIn_app (goodIn_of _ (by decide +kernel)) ggX12_readsOp_X12_own
set_option maxRecDepth 100000 in
theorem ggX12_readsOp_X12_faults : GoodIn wsX12_readsOp wsX12_faults := goodIn_r _ [34, 8, 35, 41, 42, 43, 44, 45, 46, 47, 48, 49, 50, 51, 52, 53, 54, 55, 56, 57, 58, 59, 60, 61, 62, 63, 64, 65, 66, 67, 68, 69, 70, 71, 72, 73, 74, 75, 76, 77, 78, 79, 80, 81, 82, 83, 84, 85, 86, 87, 88, 89, 90, 91, 92, 93, 94, 95, 96, 97, 98, 99, 100, 101, 102, 103, 104, 105, 106, 107] rfl (by decide +kernel)
set_option maxRecDepth 100000 in
theorem gX12_readsOp_X12_faults : GoodIn wsX12_readsOp (wsV RX12 239 RX12 yX12_faults wsX12_faults) := goodIn_app (goodIn_of _ (by decide +kernel)) ggX12_readsOp_X12_faults
set_option maxRecDepth 100000 in
theorem ggX12_readsLet_X12_newName : GoodIn wsX12_readsLet wsX12_newName := goodIn_r _ [12, 13, 14, 15, 16, 11, 17, 18, 19, 20, 21, 22, 23, 24, 25, 26, 27, 28, 29, 30, 31, 32, 33, 34, 35, 36, 37, 38, 39, 40, 41, 42, 43, 44, 45, 46, 47, 48, 49, 50, 51, 52, 53, 54, 55, 56, 57, 58, 59, 60, 3, 61, 62, 63, 64, 65, 66, 67, 68, 69, 2, 70, 71, 72, 73, 74, 114, 115, 116, 117, 118, 119, 120, 121, 122, 123, 124, 125, 126, 127, 128, 129, 130, 131, 132, 133, 134, 135, 136, 137, 138, 139, 140, 141, 142, 143, 144, 145, 146, 147, 148, 149, 150, 151, 152, 153, 154, 155, 156, 157, 158, 159, 160, 161, 162, 163, 164, 165, 166, 167, 168, 169, 170, 171, 172, 173, 174, 175, 176, 177, 178, 179, 180] rfl (by decide +kernel)
set_option maxRecDepth 100000 in
theorem gX12_readsLet_X12_newName : GoodIn wsX12_readsLet (wsV RX12 282 RX12 yX12_newName wsX12_newName) := goodIn_app (goodIn_of _ (by decide +kernel)) ggX12_readsLet_X12_newName
set_option maxRecDepth 100000 in
theorem ggX12_readsLet_X12_mark : GoodIn wsX12_readsLet wsX12_mark := goodIn_r _ [78, 18, 24, 25, 26, 11, 27, 28, 29, 30, 31, 32, 33, 34, 35, 36, 37, 19, 46, 47, 48, 49, 50, 114, 115, 116, 117, 118, 119, 120, 121, 122, 123, 124, 125, 126, 127, 128, 129, 130, 131, 132, 133, 134, 135, 136, 137, 138, 139, 140, 141, 142, 143, 144, 145, 146, 147, 148, 149, 150, 151, 152, 153, 154, 155, 156, 157, 158, 159, 160, 161, 162, 163, 164, 165, 166, 167, 168, 169, 170, 171, 172, 173, 174, 175, 176, 177, 178, 179, 180] rfl (by decide +kernel)
set_option maxRecDepth 100000 in
theorem gX12_readsLet_X12_mark : GoodIn wsX12_readsLet (wsV RX12 313 RX12 yX12_mark wsX12_mark) := goodIn_app (goodIn_of _ (by decide +kernel)) ggX12_readsLet_X12_mark
set_option maxRecDepth 100000 in
theorem ggX12_readsLet_X12_readsWhat : GoodIn wsX12_readsLet wsX12_readsWhat := goodIn_r _ [82, 1, 18, 83, 84, 24, 25, 26, 11, 27, 28, 29, 30, 31, 32, 33, 34, 35, 36, 37, 19, 42, 43, 44, 45, 85, 86, 87, 88, 13, 89, 90, 91, 92, 93, 94, 38, 39, 40, 41, 46, 47, 48, 49, 50, 95, 96, 97, 98, 99, 100, 101, 14, 15, 16, 17, 20, 21, 22, 23, 51, 52, 53, 54, 55, 66, 67, 68, 69, 2, 3, 70, 71, 72, 73, 74, 114, 115, 116, 117, 118, 119, 120, 121, 122, 123, 124, 125, 126, 127, 128, 129, 130, 131, 132, 133, 134, 135, 136, 137, 138, 139, 140, 141, 142, 143, 144, 145, 146, 147, 148, 149, 150, 151, 152, 153, 154, 155, 156, 157, 158, 159, 160, 161, 162, 163, 164, 165, 166, 167, 168, 169, 170, 171, 172, 173, 174, 175, 176, 177, 178, 179, 180] rfl (by decide +kernel)
set_option maxRecDepth 100000 in
theorem gX12_readsLet_X12_readsWhat : GoodIn wsX12_readsLet (wsV RX12 316 RX12 yX12_readsWhat wsX12_readsWhat) := goodIn_app (goodIn_of _ (by decide +kernel)) ggX12_readsLet_X12_readsWhat
set_option maxRecDepth 100000 in
theorem ggX12_readsLet_X12_readsOp : GoodIn wsX12_readsLet wsX12_readsOp := goodIn_r _ [105, 18, 13, 24, 25, 26, 11, 27, 28, 29, 30, 31, 32, 33, 34, 35, 36, 37, 19, 20, 21, 22, 23, 38, 39, 40, 41, 42, 43, 44, 45, 46, 47, 48, 49, 50, 51, 52, 53, 54, 55, 114, 115, 116, 117, 118, 119, 120, 121, 122, 123, 124, 125, 126, 127, 128, 129, 130, 131, 132, 133, 134, 135, 136, 137, 138, 139, 140, 141, 142, 143, 144, 145, 146, 147, 148, 149, 150, 151, 152, 153, 154, 155, 156, 157, 158, 159, 160, 161, 162, 163, 164, 165, 166, 167, 168, 169, 170, 171, 172, 173, 174, 175, 176, 177, 178, 179, 180] rfl (by decide +kernel)
set_option maxRecDepth 100000 in
theorem gX12_readsLet_X12_readsOp : GoodIn wsX12_readsLet (wsV RX12 319 RX12 yX12_readsOp wsX12_readsOp) := goodIn_app (goodIn_of _ (by decide +kernel)) ggX12_readsLet_X12_readsOp
set_option maxRecDepth 100000 in
theorem ggX12_readsLet_X12_goesWell : GoodIn wsX12_readsLet wsX12_goesWell := goodIn_r _ [27, 28, 114, 115, 116, 117, 118, 119, 120, 121, 122, 123, 124, 125, 126, 127, 128, 129, 130, 131, 132, 133, 134, 135, 136, 137, 138, 139, 140, 141, 142, 143, 144, 145, 146, 147, 148, 149, 150, 151, 152, 153, 154, 155, 156, 157, 158, 159, 160, 161, 162, 163, 164, 165, 166, 167, 168, 169, 170, 171, 172, 173, 174, 175, 176, 177, 178, 179, 180] rfl (by decide +kernel)
set_option maxRecDepth 100000 in
theorem gX12_readsLet_X12_goesWell : GoodIn wsX12_readsLet (wsV RX12 231 RX12 yX12_goesWell wsX12_goesWell) := goodIn_app (goodIn_of _ (by decide +kernel)) ggX12_readsLet_X12_goesWell
set_option maxRecDepth 100000 in
theorem ggX12_readsLet_X12_newNumber : GoodIn wsX12_readsLet wsX12_newNumber := goodIn_r _ [109, 2, 3, 70, 110, 4, 6, 111, 112, 113, 71, 72, 73, 11, 74, 114, 115, 116, 117, 118, 119, 120, 121, 122, 123, 124, 125, 126, 127, 128, 129, 130, 131, 132, 133, 134, 135, 136, 137, 138, 139, 140, 141, 142, 143, 144, 145, 146, 147, 148, 149, 150, 151, 152, 153, 154, 155, 156, 157, 158, 159, 160, 161, 162, 163, 164, 165, 166, 167, 168, 169, 170, 171, 172, 173, 174, 175, 176, 177, 178, 179, 180] rfl (by decide +kernel)
set_option maxRecDepth 100000 in
theorem gX12_readsLet_X12_newNumber : GoodIn wsX12_readsLet (wsV RX12 305 RX12 yX12_newNumber wsX12_newNumber) := goodIn_app (goodIn_of _ (by decide +kernel)) ggX12_readsLet_X12_newNumber
set_option maxRecDepth 100000 in
theorem ggX12_readsLet_X12_n : GoodIn wsX12_readsLet wsX12_n := goodIn_r _ [74, 3, 114, 115, 116, 117, 118, 119, 120, 121, 122, 123, 124, 125, 126, 127, 128, 129, 130, 131, 132, 133, 134, 135, 136, 137, 138, 139, 140, 141, 142, 143, 144, 145, 146, 147, 148, 149, 150, 151, 152, 153, 154, 155, 156, 157, 158, 159, 160, 161, 162, 163, 164, 165, 166, 167, 168, 169, 170, 171, 172, 173, 174, 175, 176, 177, 178, 179, 180] rfl (by decide +kernel)
set_option maxRecDepth 100000 in
theorem gX12_readsLet_X12_n : GoodIn wsX12_readsLet (wsV RX12 270 RX12 yX12_n wsX12_n) := goodIn_app (goodIn_of _ (by decide +kernel)) ggX12_readsLet_X12_n
set_option maxRecDepth 100000 in
theorem ggX12_readsFixed_X12_toldNumber : GoodIn wsX12_readsFixed wsX12_toldNumber := goodIn_r _ [7, 1, 8, 9, 10, 6, 11, 12, 13, 14, 15, 16, 17, 18, 19, 20, 21, 22, 23, 24, 25, 26, 27, 28, 29, 30, 31, 32, 33, 34, 35, 36, 37, 38, 39, 40, 41, 42, 43, 44, 45, 46, 47, 48, 49, 50, 51, 52, 53, 54, 55, 56, 57, 58, 59, 60, 71, 72, 73, 74, 75, 76, 77, 78, 79, 80, 81, 82, 83, 84, 85, 86, 87, 88, 89, 90, 91, 92, 93, 94, 95, 96, 97, 98, 99, 100, 101, 102, 103, 104, 105, 106, 107, 108, 109, 110, 111, 112, 113, 114, 115, 116, 117, 118, 119, 120, 121, 122, 123, 124, 125, 126, 127, 128, 129, 130, 131, 132, 133, 134, 135, 136, 137] rfl (by decide +kernel)
set_option maxRecDepth 100000 in
theorem gX12_readsFixed_X12_toldNumber : GoodIn wsX12_readsFixed (wsV RX12 310 RX12 yX12_toldNumber wsX12_toldNumber) := goodIn_app (goodIn_of _ (by decide +kernel)) ggX12_readsFixed_X12_toldNumber
set_option maxRecDepth 100000 in
theorem ggX12_readsFixed_X12_name : GoodIn wsX12_readsFixed wsX12_name := goodIn_r _ [11, 12, 1, 13, 14, 15, 16, 6, 17, 18, 19, 20, 21, 22, 23, 24, 25, 26, 27, 28, 29, 30, 31, 32, 33, 34, 35, 36, 37, 38, 39, 40, 41, 42, 43, 44, 45, 46, 47, 48, 49, 71, 72, 73, 74, 75, 76, 77, 78, 79, 80, 81, 82, 83, 84, 85, 86, 87, 88, 89, 90, 91, 92, 93, 94, 95, 96, 97, 98, 99, 100, 101, 102, 103, 104, 105, 106, 107, 108, 109, 110, 111, 112, 113, 114, 115, 116, 117, 118, 119, 120, 121, 122, 123, 124, 125, 126, 127, 128, 129, 130, 131, 132, 133, 134, 135, 136, 137] rfl (by decide +kernel)
set_option maxRecDepth 100000 in
theorem gX12_readsFixed_X12_name : GoodIn wsX12_readsFixed (wsV RX12 273 RX12 yX12_name wsX12_name) := goodIn_app (goodIn_of _ (by decide +kernel)) ggX12_readsFixed_X12_name
set_option maxRecDepth 100000 in
theorem ggX12_readsFixed_X12_goesWell : GoodIn wsX12_readsFixed wsX12_goesWell := goodIn_r _ [21, 22, 71, 72, 73, 74, 75, 76, 77, 78, 79, 80, 81, 82, 83, 84, 85, 86, 87, 88, 89, 90, 91, 92, 93, 94, 95, 96, 97, 98, 99, 100, 101, 102, 103, 104, 105, 106, 107, 108, 109, 110, 111, 112, 113, 114, 115, 116, 117, 118, 119, 120, 121, 122, 123, 124, 125, 126, 127, 128, 129, 130, 131, 132, 133, 134, 135, 136, 137] rfl (by decide +kernel)
set_option maxRecDepth 100000 in
theorem gX12_readsFixed_X12_goesWell : GoodIn wsX12_readsFixed (wsV RX12 231 RX12 yX12_goesWell wsX12_goesWell) := goodIn_app (goodIn_of _ (by decide +kernel)) ggX12_readsFixed_X12_goesWell
set_option maxRecDepth 100000 in
theorem ggX12_readsFixed_X12_formatNamed : GoodIn wsX12_readsFixed wsX12_formatNamed := goodIn_r _ [64, 65, 55, 66, 67, 68, 69, 6, 70, 71, 72, 73, 74, 75, 76, 77, 78, 79, 80, 81, 82, 83, 84, 85, 86, 87, 88, 89, 90, 91, 92, 93, 94, 95, 96, 97, 98, 99, 100, 101, 102, 103, 104, 105, 106, 107, 108, 109, 110, 111, 112, 113, 114, 115, 116, 117, 118, 119, 120, 121, 122, 123, 124, 125, 126, 127, 128, 129, 130, 131, 132, 133, 134, 135, 136, 137] rfl (by decide +kernel)
set_option maxRecDepth 100000 in
theorem gX12_readsFixed_X12_formatNamed : GoodIn wsX12_readsFixed (wsV RX12 276 RX12 yX12_formatNamed wsX12_formatNamed) := goodIn_app (goodIn_of _ (by decide +kernel)) ggX12_readsFixed_X12_formatNamed
set_option maxRecDepth 100000 in
theorem ggX12_readsFixed_X12_faults : GoodIn wsX12_readsFixed wsX12_faults := goodIn_r _ [43, 22, 44, 71, 72, 73, 74, 75, 76, 77, 78, 79, 80, 81, 82, 83, 84, 85, 86, 87, 88, 89, 90, 91, 92, 93, 94, 95, 96, 97, 98, 99, 100, 101, 102, 103, 104, 105, 106, 107, 108, 109, 110, 111, 112, 113, 114, 115, 116, 117, 118, 119, 120, 121, 122, 123, 124, 125, 126, 127, 128, 129, 130, 131, 132, 133, 134, 135, 136, 137] rfl (by decide +kernel)
set_option maxRecDepth 100000 in
theorem gX12_readsFixed_X12_faults : GoodIn wsX12_readsFixed (wsV RX12 239 RX12 yX12_faults wsX12_faults) := goodIn_app (goodIn_of _ (by decide +kernel)) ggX12_readsFixed_X12_faults
set_option maxRecDepth 100000 in
theorem ggX12_readsFixed_X12_n : GoodIn wsX12_readsFixed wsX12_n := goodIn_r _ [60, 55, 71, 72, 73, 74, 75, 76, 77, 78, 79, 80, 81, 82, 83, 84, 85, 86, 87, 88, 89, 90, 91, 92, 93, 94, 95, 96, 97, 98, 99, 100, 101, 102, 103, 104, 105, 106, 107, 108, 109, 110, 111, 112, 113, 114, 115, 116, 117, 118, 119, 120, 121, 122, 123, 124, 125, 126, 127, 128, 129, 130, 131, 132, 133, 134, 135, 136, 137] rfl (by decide +kernel)
set_option maxRecDepth 100000 in
theorem gX12_readsFixed_X12_n : GoodIn wsX12_readsFixed (wsV RX12 270 RX12 yX12_n wsX12_n) := goodIn_app (goodIn_of _ (by decide +kernel)) ggX12_readsFixed_X12_n
set_option maxRecDepth 100000 in
theorem ggX12_readsGroup_X12_toldNumber : GoodIn wsX12_readsGroup wsX12_toldNumber := goodIn_r _ [9, 1, 10, 11, 12, 8, 13, 14, 15, 16, 17, 18, 19, 20, 21, 22, 23, 24, 25, 26, 27, 28, 29, 30, 31, 32, 33, 34, 35, 36, 37, 38, 39, 40, 41, 42, 43, 44, 45, 46, 47, 48, 49, 50, 51, 52, 53, 54, 55, 3, 4, 56, 57, 58, 59, 60, 64, 65, 66, 67, 68, 69, 70, 71, 72, 73, 74, 75, 76, 77, 78, 79, 80, 81, 82, 83, 84, 85, 86, 87, 88, 89, 90, 91, 92, 93, 94, 95, 96, 97, 98, 99, 100, 101, 102, 103, 104, 105, 106, 107, 108, 109, 110, 111, 112, 113, 114, 115, 116, 117, 118, 119, 120, 121, 122, 123, 124, 125, 126, 127, 128, 129, 130] rfl (by decide +kernel)
set_option maxRecDepth 100000 in
theorem gX12_readsGroup_X12_toldNumber : GoodIn wsX12_readsGroup (wsV RX12 310 RX12 yX12_toldNumber wsX12_toldNumber) := goodIn_app (goodIn_of _ (by decide +kernel)) ggX12_readsGroup_X12_toldNumber
set_option maxRecDepth 100000 in
theorem ggX12_readsGroup_X12_goesWell : GoodIn wsX12_readsGroup wsX12_goesWell := goodIn_r _ [23, 24, 64, 65, 66, 67, 68, 69, 70, 71, 72, 73, 74, 75, 76, 77, 78, 79, 80, 81, 82, 83, 84, 85, 86, 87, 88, 89, 90, 91, 92, 93, 94, 95, 96, 97, 98, 99, 100, 101, 102, 103, 104, 105, 106, 107, 108, 109, 110, 111, 112, 113, 114, 115, 116, 117, 118, 119, 120, 121, 122, 123, 124, 125, 126, 127, 128, 129, 130] rfl (by decide +kernel)
set_option maxRecDepth 100000 in
theorem gX12_readsGroup_X12_goesWell : GoodIn wsX12_readsGroup (wsV RX12 231 RX12 yX12_goesWell wsX12_goesWell) := goodIn_app (goodIn_of _ (by decide +kernel)) ggX12_readsGroup_X12_goesWell
set_option maxRecDepth 100000 in
theorem ggX12_readsGroup_X12_faults : GoodIn wsX12_readsGroup wsX12_faults := goodIn_r _ [45, 24, 46, 64, 65, 66, 67, 68, 69, 70, 71, 72, 73, 74, 75, 76, 77, 78, 79, 80, 81, 82, 83, 84, 85, 86, 87, 88, 89, 90, 91, 92, 93, 94, 95, 96, 97, 98, 99, 100, 101, 102, 103, 104, 105, 106, 107, 108, 109, 110, 111, 112, 113, 114, 115, 116, 117, 118, 119, 120, 121, 122, 123, 124, 125, 126, 127, 128, 129, 130] rfl (by decide +kernel)
set_option maxRecDepth 100000 in
theorem gX12_readsGroup_X12_faults : GoodIn wsX12_readsGroup (wsV RX12 239 RX12 yX12_faults wsX12_faults) := goodIn_app (goodIn_of _ (by decide +kernel)) ggX12_readsGroup_X12_faults
set_option maxRecDepth 100000 in
theorem ggX12_readsGroup_X12_n : GoodIn wsX12_readsGroup wsX12_n := goodIn_r _ [60, 4, 64, 65, 66, 67, 68, 69, 70, 71, 72, 73, 74, 75, 76, 77, 78, 79, 80, 81, 82, 83, 84, 85, 86, 87, 88, 89, 90, 91, 92, 93, 94, 95, 96, 97, 98, 99, 100, 101, 102, 103, 104, 105, 106, 107, 108, 109, 110, 111, 112, 113, 114, 115, 116, 117, 118, 119, 120, 121, 122, 123, 124, 125, 126, 127, 128, 129, 130] rfl (by decide +kernel)
set_option maxRecDepth 100000 in
theorem gX12_readsGroup_X12_n : GoodIn wsX12_readsGroup (wsV RX12 270 RX12 yX12_n wsX12_n) := goodIn_app (goodIn_of _ (by decide +kernel)) ggX12_readsGroup_X12_n
set_option maxRecDepth 100000 in
theorem ggX12_readsGroup_X12_lesser : GoodIn wsX12_readsGroup wsX12_lesser := goodIn_r _ [63] rfl (by decide +kernel)
set_option maxRecDepth 100000 in
theorem gX12_readsGroup_X12_lesser : GoodIn wsX12_readsGroup (va_wsS RX12 322 yX12_lesser wsX12_lesser) := goodIn_app (goodIn_of _ (by decide +kernel)) ggX12_readsGroup_X12_lesser
set_option maxRecDepth 100000 in
theorem ggX12_readsAnswer_X12_toldNumber : GoodIn wsX12_readsAnswer wsX12_toldNumber := goodIn_r _ [7, 8, 9, 10, 11, 6, 12, 13, 14, 15, 16, 17, 18, 19, 20, 21, 22, 23, 24, 25, 26, 27, 28, 29, 30, 31, 32, 33, 34, 35, 36, 37, 38, 39, 40, 41, 42, 43, 44, 45, 46, 47, 48, 49, 50, 51, 52, 53, 54, 55, 56, 57, 58, 59, 60, 61, 79, 80, 81, 82, 83, 84, 85, 86, 87, 88, 89, 90, 91, 92, 93, 94, 95, 96, 97, 98, 99, 100, 101, 102, 103, 104, 105, 106, 107, 108, 109, 110, 111, 112, 113, 114, 115, 116, 117, 118, 119, 120, 121, 122, 123, 124, 125, 126, 127, 128, 129, 130, 131, 132, 133, 134, 135, 136, 137, 138, 139, 140, 141, 142, 143, 144, 145] rfl (by decide +kernel)
set_option maxRecDepth 100000 in
theorem gX12_readsAnswer_X12_toldNumber : GoodIn wsX12_readsAnswer (wsV RX12 310 RX12 yX12_toldNumber wsX12_toldNumber) := goodIn_app (goodIn_of _ (by decide +kernel)) ggX12_readsAnswer_X12_toldNumber
set_option maxRecDepth 100000 in
theorem ggX12_readsAnswer_X12_must : GoodIn wsX12_readsAnswer wsX12_must := goodIn_r _ [65, 8, 15, 16, 17, 6, 18, 13, 19, 20, 21, 22, 23, 24, 25, 26, 27, 28, 29, 30, 31, 32, 14, 33, 34, 35, 36, 37, 38, 39, 40, 41, 42, 43, 44, 45, 46, 47, 48, 49, 50, 79, 80, 81, 82, 83, 84, 85, 86, 87, 88, 89, 90, 91, 92, 93, 94, 95, 96, 97, 98, 99, 100, 101, 102, 103, 104, 105, 106, 107, 108, 109, 110, 111, 112, 113, 114, 115, 116, 117, 118, 119, 120, 121, 122, 123, 124, 125, 126, 127, 128, 129, 130, 131, 132, 133, 134, 135, 136, 137, 138, 139, 140, 141, 142, 143, 144, 145] rfl (by decide +kernel)
set_option maxRecDepth 100000 in
theorem gX12_readsAnswer_X12_must : GoodIn wsX12_readsAnswer (wsV RX12 285 RX12 yX12_must wsX12_must) := goodIn_app (goodIn_of _ (by decide +kernel)) ggX12_readsAnswer_X12_must
set_option maxRecDepth 100000 in
theorem ggX12_readsAnswer_X12_number : GoodIn wsX12_readsAnswer wsX12_number := goodIn_r _ [69, 8, 70, 71, 72, 6, 73, 13, 74, 75, 19, 20, 21, 22, 23, 24, 25, 26, 27, 28, 29, 30, 31, 32, 14, 37, 38, 39, 40, 33, 34, 35, 36, 41, 42, 43, 44, 45, 76, 77, 78, 79, 80, 81, 82, 83, 84, 85, 86, 87, 88, 89, 90, 91, 92, 93, 94, 95, 96, 97, 98, 99, 100, 101, 102, 103, 104, 105, 106, 107, 108, 109, 110, 111, 112, 113, 114, 115, 116, 117, 118, 119, 120, 121, 122, 123, 124, 125, 126, 127, 128, 129, 130, 131, 132, 133, 134, 135, 136, 137, 138, 139, 140, 141, 142, 143, 144, 145] rfl (by decide +kernel)
set_option maxRecDepth 100000 in
theorem gX12_readsAnswer_X12_number : GoodIn wsX12_readsAnswer (wsV RX12 290 RX12 yX12_number wsX12_number) := goodIn_app (goodIn_of _ (by decide +kernel)) ggX12_readsAnswer_X12_number
set_option maxRecDepth 100000 in
theorem ggX12_readsAnswer_X12_goesWell : GoodIn wsX12_readsAnswer wsX12_goesWell := goodIn_r _ [22, 23, 79, 80, 81, 82, 83, 84, 85, 86, 87, 88, 89, 90, 91, 92, 93, 94, 95, 96, 97, 98, 99, 100, 101, 102, 103, 104, 105, 106, 107, 108, 109, 110, 111, 112, 113, 114, 115, 116, 117, 118, 119, 120, 121, 122, 123, 124, 125, 126, 127, 128, 129, 130, 131, 132, 133, 134, 135, 136, 137, 138, 139, 140, 141, 142, 143, 144, 145] rfl (by decide +kernel)
set_option maxRecDepth 100000 in
theorem gX12_readsAnswer_X12_goesWell : GoodIn wsX12_readsAnswer (wsV RX12 231 RX12 yX12_goesWell wsX12_goesWell) := goodIn_app (goodIn_of _ (by decide +kernel)) ggX12_readsAnswer_X12_goesWell
set_option maxRecDepth 100000 in
theorem ggX12_readsAnswer_X12_n : GoodIn wsX12_readsAnswer wsX12_n := goodIn_r _ [61, 56, 79, 80, 81, 82, 83, 84, 85, 86, 87, 88, 89, 90, 91, 92, 93, 94, 95, 96, 97, 98, 99, 100, 101, 102, 103, 104, 105, 106, 107, 108, 109, 110, 111, 112, 113, 114, 115, 116, 117, 118, 119, 120, 121, 122, 123, 124, 125, 126, 127, 128, 129, 130, 131, 132, 133, 134, 135, 136, 137, 138, 139, 140, 141, 142, 143, 144, 145] rfl (by decide +kernel)
set_option maxRecDepth 100000 in
theorem gX12_readsAnswer_X12_n : GoodIn wsX12_readsAnswer (wsV RX12 270 RX12 yX12_n wsX12_n) := goodIn_app (goodIn_of _ (by decide +kernel)) ggX12_readsAnswer_X12_n
set_option maxRecDepth 100000 in
theorem ggX12_readsStatement_X12_word : GoodIn wsX12_readsStatement wsX12_word := goodIn_r _ [11, 12, 1, 13, 14, 15, 10, 16, 17, 18, 19, 20, 21, 22, 23, 24, 25, 26, 27, 28, 29, 30, 31, 32, 33, 34, 35, 36, 37, 38, 39, 40, 160, 161, 162, 163, 164, 165, 166, 167, 168, 169, 170, 171, 172, 173, 174, 175, 176, 177, 178, 179, 180, 181, 182, 183, 184, 185, 186, 187, 188, 189, 190, 191, 192, 193, 194, 195, 196, 197, 198, 199, 200, 201, 202, 203, 204, 205, 206, 207, 208, 209, 210, 211, 212, 213, 214, 215, 216, 217, 218, 219, 220, 221, 222, 223, 224, 225, 226] rfl (by decide +kernel)
set_option maxRecDepth 100000 in
theorem gX12_readsStatement_X12_word : GoodIn wsX12_readsStatement (wsV RX12 249 RX12 yX12_word wsX12_word) := goodIn_app (goodIn_of _ (by decide +kernel)) ggX12_readsStatement_X12_word
set_option maxRecDepth 100000 in
theorem ggX12_readsStatement_X12_goesWell : GoodIn wsX12_readsStatement wsX12_goesWell := goodIn_r _ [16, 17, 160, 161, 162, 163, 164, 165, 166, 167, 168, 169, 170, 171, 172, 173, 174, 175, 176, 177, 178, 179, 180, 181, 182, 183, 184, 185, 186, 187, 188, 189, 190, 191, 192, 193, 194, 195, 196, 197, 198, 199, 200, 201, 202, 203, 204, 205, 206, 207, 208, 209, 210, 211, 212, 213, 214, 215, 216, 217, 218, 219, 220, 221, 222, 223, 224, 225, 226] rfl (by decide +kernel)
set_option maxRecDepth 100000 in
theorem gX12_readsStatement_X12_goesWell : GoodIn wsX12_readsStatement (wsV RX12 231 RX12 yX12_goesWell wsX12_goesWell) := goodIn_app (goodIn_of _ (by decide +kernel)) ggX12_readsStatement_X12_goesWell
set_option maxRecDepth 100000 in
theorem ggX12_readsStatement_X12_own : GoodIn wsX12_readsStatement wsX12_own := goodIn_r _ [44, 45, 1, 12, 27, 160, 161, 162, 163, 164, 165, 166, 167, 168, 169, 170, 171, 172, 173, 174, 175, 176, 177, 178, 179, 180, 181, 182, 183, 184, 185, 186, 187, 188, 189, 190, 191, 192, 193, 194, 195, 196, 197, 198, 199, 200, 201, 202, 203, 204, 205, 206, 207, 208, 209, 210, 211, 212, 213, 214, 215, 216, 217, 218, 219, 220, 221, 222, 223, 224, 225, 226] rfl (by decide +kernel)
set_option maxRecDepth 100000 in
theorem gX12_readsStatement_X12_own : GoodIn wsX12_readsStatement (wsV RX12 252 RX12 yX12_own wsX12_own) := goodIn_app (goodIn_of _ (by decide +kernel)) ggX12_readsStatement_X12_own
set_option maxRecDepth 100000 in
theorem ggX12_readsStatement_X12_isBeginning : GoodIn wsX12_readsStatement wsX12_isBeginning := goodIn_r _ [48] rfl (by decide +kernel)
set_option maxRecDepth 100000 in
theorem gX12_readsStatement_X12_isBeginning : GoodIn wsX12_readsStatement (va_wsS RX12 325 yX12_isBeginning wsX12_isBeginning) := goodIn_app (goodIn_of _ (by decide +kernel)) ggX12_readsStatement_X12_isBeginning
set_option maxRecDepth 100000 in
theorem ggX12_readsStatement_X12_faults : GoodIn wsX12_readsStatement wsX12_faults := goodIn_r _ [39, 17, 40, 160, 161, 162, 163, 164, 165, 166, 167, 168, 169, 170, 171, 172, 173, 174, 175, 176, 177, 178, 179, 180, 181, 182, 183, 184, 185, 186, 187, 188, 189, 190, 191, 192, 193, 194, 195, 196, 197, 198, 199, 200, 201, 202, 203, 204, 205, 206, 207, 208, 209, 210, 211, 212, 213, 214, 215, 216, 217, 218, 219, 220, 221, 222, 223, 224, 225, 226] rfl (by decide +kernel)
set_option maxRecDepth 100000 in
theorem gX12_readsStatement_X12_faults : GoodIn wsX12_readsStatement (wsV RX12 239 RX12 yX12_faults wsX12_faults) := goodIn_app (goodIn_of _ (by decide +kernel)) ggX12_readsStatement_X12_faults
set_option maxRecDepth 100000 in
theorem ggX12_readsStatement_X12_readsFormat : GoodIn wsX12_readsStatement wsX12_readsFormat := goodIn_r _ [52, 53, 54, 1, 5, 2, 3, 55, 56, 57, 58, 59, 60, 61, 10, 62, 63, 64, 65, 66, 12, 27, 7, 8, 9, 11, 13, 14, 15, 16, 17, 18, 19, 20, 21, 22, 23, 24, 25, 26, 28, 29, 30, 31, 32, 33, 34, 35, 36, 37, 38, 39, 40, 41, 42, 43, 44, 45, 67, 68, 69, 70, 71, 72, 73, 74, 75, 76, 77, 78, 4, 79, 80, 81, 82, 83, 84, 85, 86, 87, 88, 89, 90, 91, 92, 93, 94, 95, 96, 97, 98, 99, 100, 160, 161, 162, 163, 164, 165, 166, 167, 168, 169, 170, 171, 172, 173, 174, 175, 176, 177, 178, 179, 180, 181, 182, 183, 184, 185, 186, 187, 188, 189, 190, 191, 192, 193, 194, 195, 196, 197, 198, 199, 200, 201, 202, 203, 204, 205, 206, 207, 208, 209, 210, 211, 212, 213, 214, 215, 216, 217, 218, 219, 220, 221, 222, 223, 224, 225, 226] rfl (by decide +kernel)
set_option maxRecDepth 100000 in
theorem gX12_readsStatement_X12_readsFormat : GoodIn wsX12_readsStatement (wsV RX12 328 RX12 yX12_readsFormat wsX12_readsFormat) := goodIn_app (goodIn_of _ (by decide +kernel)) ggX12_readsStatement_X12_readsFormat
set_option maxRecDepth 100000 in
theorem ggX12_readsStatement_X12_number : GoodIn wsX12_readsStatement wsX12_number := goodIn_r _ [91, 1, 92, 93, 94, 10, 95, 12, 96, 97, 13, 14, 15, 16, 17, 18, 19, 20, 21, 22, 23, 24, 25, 26, 27, 32, 33, 34, 35, 28, 29, 30, 31, 36, 37, 38, 39, 40, 98, 99, 100, 160, 161, 162, 163, 164, 165, 166, 167, 168, 169, 170, 171, 172, 173, 174, 175, 176, 177, 178, 179, 180, 181, 182, 183, 184, 185, 186, 187, 188, 189, 190, 191, 192, 193, 194, 195, 196, 197, 198, 199, 200, 201, 202, 203, 204, 205, 206, 207, 208, 209, 210, 211, 212, 213, 214, 215, 216, 217, 218, 219, 220, 221, 222, 223, 224, 225, 226] rfl (by decide +kernel)
set_option maxRecDepth 100000 in
theorem gX12_readsStatement_X12_number : GoodIn wsX12_readsStatement (wsV RX12 290 RX12 yX12_number wsX12_number) := goodIn_app (goodIn_of _ (by decide +kernel)) ggX12_readsStatement_X12_number
set_option maxRecDepth 100000 in
theorem ggX12_readsStatement_X12_readsInput : GoodIn wsX12_readsStatement wsX12_readsInput := goodIn_r _ [104, 105, 106, 1, 107, 4, 3, 108, 59, 60, 61, 10, 62, 63, 64, 65, 66, 12, 27, 7, 8, 9, 11, 13, 14, 15, 16, 17, 18, 19, 20, 21, 22, 23, 24, 25, 26, 28, 29, 30, 31, 32, 33, 34, 35, 36, 37, 38, 39, 40, 41, 42, 43, 44, 45, 67, 68, 69, 70, 2, 55, 71, 72, 73, 74, 75, 76, 77, 78, 79, 80, 81, 82, 83, 109, 110, 111, 112, 92, 93, 94, 95, 96, 97, 98, 99, 100, 113, 114, 115, 116, 117, 118, 119, 120, 121, 122, 160, 161, 162, 163, 164, 165, 166, 167, 168, 169, 170, 171, 172, 173, 174, 175, 176, 177, 178, 179, 180, 181, 182, 183, 184, 185, 186, 187, 188, 189, 190, 191, 192, 193, 194, 195, 196, 197, 198, 199, 200, 201, 202, 203, 204, 205, 206, 207, 208, 209, 210, 211, 212, 213, 214, 215, 216, 217, 218, 219, 220, 221, 222, 223, 224, 225, 226] rfl (by decide +kernel)
set_option maxRecDepth 100000 in
theorem gX12_readsStatement_X12_readsInput : GoodIn wsX12_readsStatement (wsV RX12 331 RX12 yX12_readsInput wsX12_readsInput) := goodIn_app (goodIn_of _ (by decide +kernel)) ggX12_readsStatement_X12_readsInput
set_option maxRecDepth 100000 in
theorem ggX12_readsStatement_X12_readsLet : GoodIn wsX12_readsStatement wsX12_readsLet := goodIn_r _ [126, 127, 4, 3, 118, 107, 119, 108, 59, 60, 61, 10, 62, 1, 63, 64, 65, 66, 12, 27, 7, 8, 9, 11, 13, 14, 15, 16, 17, 18, 19, 20, 21, 22, 23, 24, 25, 26, 28, 29, 30, 31, 32, 33, 34, 35, 36, 37, 38, 39, 40, 41, 42, 43, 44, 45, 67, 68, 69, 70, 2, 55, 71, 72, 73, 74, 75, 76, 77, 78, 79, 80, 81, 82, 83, 128, 129, 130, 131, 132, 133, 134, 135, 136, 53, 109, 110, 111, 112, 92, 93, 94, 95, 96, 97, 98, 99, 100, 137, 138, 139, 140, 141, 142, 143, 144, 113, 114, 115, 116, 117, 120, 121, 122, 160, 161, 162, 163, 164, 165, 166, 167, 168, 169, 170, 171, 172, 173, 174, 175, 176, 177, 178, 179, 180, 181, 182, 183, 184, 185, 186, 187, 188, 189, 190, 191, 192, 193, 194, 195, 196, 197, 198, 199, 200, 201, 202, 203, 204, 205, 206, 207, 208, 209, 210, 211, 212, 213, 214, 215, 216, 217, 218, 219, 220, 221, 222, 223, 224, 225, 226] rfl (by decide +kernel)
set_option maxRecDepth 100000 in
theorem gX12_readsStatement_X12_readsLet : GoodIn wsX12_readsStatement (wsV RX12 334 RX12 yX12_readsLet wsX12_readsLet) := goodIn_app (goodIn_of _ (by decide +kernel)) ggX12_readsStatement_X12_readsLet
set_option maxRecDepth 100000 in
theorem ggX12_readsStatement_X12_readsFixed : GoodIn wsX12_readsStatement wsX12_readsFixed := goodIn_r _ [148, 1, 120, 137, 138, 139, 10, 140, 63, 64, 65, 66, 12, 27, 7, 8, 9, 11, 13, 14, 15, 16, 17, 18, 19, 20, 21, 22, 23, 24, 25, 26, 28, 29, 30, 31, 32, 33, 34, 35, 36, 37, 38, 39, 40, 41, 42, 43, 44, 45, 75, 76, 77, 78, 4, 3, 79, 80, 81, 82, 83, 67, 68, 69, 70, 2, 55, 71, 72, 73, 74, 160, 161, 162, 163, 164, 165, 166, 167, 168, 169, 170, 171, 172, 173, 174, 175, 176, 177, 178, 179, 180, 181, 182, 183, 184, 185, 186, 187, 188, 189, 190, 191, 192, 193, 194, 195, 196, 197, 198, 199, 200, 201, 202, 203, 204, 205, 206, 207, 208, 209, 210, 211, 212, 213, 214, 215, 216, 217, 218, 219, 220, 221, 222, 223, 224, 225, 226] rfl (by decide +kernel)
set_option maxRecDepth 100000 in
theorem gX12_readsStatement_X12_readsFixed : GoodIn wsX12_readsStatement (wsV RX12 337 RX12 yX12_readsFixed wsX12_readsFixed) := goodIn_app (goodIn_of _ (by decide +kernel)) ggX12_readsStatement_X12_readsFixed
set_option maxRecDepth 100000 in
theorem ggX12_readsStatement_X12_readsGroup : GoodIn wsX12_readsStatement wsX12_readsGroup := goodIn_r _ [152, 1, 122, 4, 3, 137, 138, 139, 10, 140, 63, 64, 65, 66, 12, 27, 7, 8, 9, 11, 13, 14, 15, 16, 17, 18, 19, 20, 21, 22, 23, 24, 25, 26, 28, 29, 30, 31, 32, 33, 34, 35, 36, 37, 38, 39, 40, 41, 42, 43, 44, 45, 75, 76, 77, 78, 79, 80, 81, 82, 83, 153, 154, 155, 160, 161, 162, 163, 164, 165, 166, 167, 168, 169, 170, 171, 172, 173, 174, 175, 176, 177, 178, 179, 180, 181, 182, 183, 184, 185, 186, 187, 188, 189, 190, 191, 192, 193, 194, 195, 196, 197, 198, 199, 200, 201, 202, 203, 204, 205, 206, 207, 208, 209, 210, 211, 212, 213, 214, 215, 216, 217, 218, 219, 220, 221, 222, 223, 224, 225, 226] rfl (by decide +kernel)
set_option maxRecDepth 100000 in
theorem gX12_readsStatement_X12_readsGroup : GoodIn wsX12_readsStatement (wsV RX12 340 RX12 yX12_readsGroup wsX12_readsGroup) := goodIn_app (goodIn_of _ (by decide +kernel)) ggX12_readsStatement_X12_readsGroup
set_option maxRecDepth 100000 in
theorem ggX12_readsStatement_X12_readsAnswer : GoodIn wsX12_readsStatement wsX12_readsAnswer := goodIn_r _ [159, 53, 121, 137, 138, 139, 10, 140, 1, 63, 64, 65, 66, 12, 27, 7, 8, 9, 11, 13, 14, 15, 16, 17, 18, 19, 20, 21, 22, 23, 24, 25, 26, 28, 29, 30, 31, 32, 33, 34, 35, 36, 37, 38, 39, 40, 41, 42, 43, 44, 45, 75, 76, 77, 78, 4, 3, 79, 80, 81, 82, 83, 84, 85, 86, 87, 88, 89, 90, 91, 92, 93, 94, 95, 96, 97, 98, 99, 100, 160, 161, 162, 163, 164, 165, 166, 167, 168, 169, 170, 171, 172, 173, 174, 175, 176, 177, 178, 179, 180, 181, 182, 183, 184, 185, 186, 187, 188, 189, 190, 191, 192, 193, 194, 195, 196, 197, 198, 199, 200, 201, 202, 203, 204, 205, 206, 207, 208, 209, 210, 211, 212, 213, 214, 215, 216, 217, 218, 219, 220, 221, 222, 223, 224, 225, 226] rfl (by decide +kernel)
set_option maxRecDepth 100000 in
theorem gX12_readsStatement_X12_readsAnswer : GoodIn wsX12_readsStatement (wsV RX12 343 RX12 yX12_readsAnswer wsX12_readsAnswer) := goodIn_app (goodIn_of _ (by decide +kernel)) ggX12_readsStatement_X12_readsAnswer
set_option maxRecDepth 100000 in
theorem ggX12_readsStatement_X12_mark : GoodIn wsX12_readsStatement wsX12_mark := goodIn_r _ [131, 12, 13, 14, 15, 10, 16, 17, 18, 19, 20, 21, 22, 23, 24, 25, 26, 27, 36, 37, 38, 39, 40, 160, 161, 162, 163, 164, 165, 166, 167, 168, 169, 170, 171, 172, 173, 174, 175, 176, 177, 178, 179, 180, 181, 182, 183, 184, 185, 186, 187, 188, 189, 190, 191, 192, 193, 194, 195, 196, 197, 198, 199, 200, 201, 202, 203, 204, 205, 206, 207, 208, 209, 210, 211, 212, 213, 214, 215, 216, 217, 218, 219, 220, 221, 222, 223, 224, 225, 226] rfl (by decide +kernel)
set_option maxRecDepth 100000 in
theorem gX12_readsStatement_X12_mark : GoodIn wsX12_readsStatement (wsV RX12 313 RX12 yX12_mark wsX12_mark) := goodIn_app (goodIn_of _ (by decide +kernel)) ggX12_readsStatement_X12_mark
set_option maxRecDepth 100000 in
theorem ggX12_task_X12_goesWell : GoodIn wsX12_task wsX12_goesWell := goodIn_r _ [18, 4, 184, 185, 186, 187, 188, 189, 190, 191, 192, 193, 194, 195, 196, 197, 198, 199, 200, 201, 202, 203, 204, 205, 206, 207, 208, 209, 210, 211, 212, 213, 214, 215, 216, 217, 218, 219, 220, 221, 222, 223, 224, 225, 226, 227, 228, 229, 230, 231, 232, 233, 234, 235, 236, 237, 238, 239, 240, 241, 242, 243, 244, 245, 246, 247, 248, 249, 250] rfl (by decide +kernel)
set_option maxRecDepth 100000 in
theorem gX12_task_X12_goesWell : GoodIn wsX12_task (wsV RX12 231 RX12 yX12_goesWell wsX12_goesWell) := goodIn_app (goodIn_of _ (by decide +kernel)) ggX12_task_X12_goesWell
set_option maxRecDepth 100000 in
theorem ggX12_task_X12_here : GoodIn wsX12_task wsX12_here := goodIn_r _ [22, 3, 23, 24, 25, 17, 26, 2, 27, 184, 185, 186, 187, 188, 189, 190, 191, 192, 193, 194, 195, 196, 197, 198, 199, 200, 201, 202, 203, 204, 205, 206, 207, 208, 209, 210, 211, 212, 213, 214, 215, 216, 217, 218, 219, 220, 221, 222, 223, 224, 225, 226, 227, 228, 229, 230, 231, 232, 233, 234, 235, 236, 237, 238, 239, 240, 241, 242, 243, 244, 245, 246, 247, 248, 249, 250] rfl (by decide +kernel)
set_option maxRecDepth 100000 in
theorem gX12_task_X12_here : GoodIn wsX12_task (wsV RX12 235 RX12 yX12_here wsX12_here) := goodIn_app (goodIn_of _ (by decide +kernel)) ggX12_task_X12_here
set_option maxRecDepth 100000 in
theorem ggX12_task_X12_readsStatement : GoodIn wsX12_task wsX12_readsStatement := goodIn_r _ [31, 32, 7, 6, 8, 33, 9, 34, 35, 36, 17, 37, 3, 14, 15, 16, 18, 4, 19, 20, 21, 22, 23, 24, 25, 26, 2, 27, 38, 39, 40, 41, 42, 43, 44, 45, 46, 47, 48, 49, 5, 50, 51, 52, 53, 54, 55, 56, 57, 58, 59, 60, 61, 62, 63, 64, 65, 66, 67, 68, 69, 70, 71, 72, 73, 74, 75, 76, 77, 78, 79, 80, 81, 82, 83, 84, 85, 86, 87, 88, 89, 90, 91, 92, 93, 94, 95, 96, 97, 98, 99, 100, 101, 102, 103, 104, 105, 106, 107, 108, 109, 110, 111, 112, 113, 114, 115, 116, 117, 118, 119, 120, 121, 122, 123, 124, 125, 126, 127, 128, 129, 130, 131, 132, 133, 134, 135, 136, 137, 138, 139, 140, 141, 142, 143, 144, 145, 146, 147, 148, 149, 150, 151, 152, 153, 154, 155, 156, 157, 158, 159, 160, 161, 162, 163, 164, 165, 166, 167, 168, 184, 185, 186, 187, 188, 189, 190, 191, 192, 193, 194, 195, 196, 197, 198, 199, 200, 201, 202, 203, 204, 205, 206, 207, 208, 209, 210, 211, 212, 213, 214, 215, 216, 217, 218, 219, 220, 221, 222, 223, 224, 225, 226, 227, 228, 229, 230, 231, 232, 233, 234, 235, 236, 237, 238, 239, 240, 241, 242, 243, 244, 245, 246, 247, 248, 249, 250] rfl (by decide +kernel)
set_option maxRecDepth 100000 in
theorem gX12_task_X12_readsStatement : GoodIn wsX12_task (wsV RX12 346 RX12 yX12_readsStatement wsX12_readsStatement) := goodIn_app (goodIn_of _ (by decide +kernel)) ggX12_task_X12_readsStatement
set_option maxRecDepth 100000 in
theorem ggX12_task_X12_faults : GoodIn wsX12_task wsX12_faults := goodIn_r _ [49, 4, 5, 184, 185, 186, 187, 188, 189, 190, 191, 192, 193, 194, 195, 196, 197, 198, 199, 200, 201, 202, 203, 204, 205, 206, 207, 208, 209, 210, 211, 212, 213, 214, 215, 216, 217, 218, 219, 220, 221, 222, 223, 224, 225, 226, 227, 228, 229, 230, 231, 232, 233, 234, 235, 236, 237, 238, 239, 240, 241, 242, 243, 244, 245, 246, 247, 248, 249, 250] rfl (by decide +kernel)
set_option maxRecDepth 100000 in
theorem gX12_task_X12_faults : GoodIn wsX12_task (wsV RX12 239 RX12 yX12_faults wsX12_faults) := goodIn_app (goodIn_of _ (by decide +kernel)) ggX12_task_X12_faults
set_option maxRecDepth 100000 in
theorem ggX12_task_X12_refuses : GoodIn wsX12_task wsX12_refuses := goodIn_r _ [172, 173, 184, 185, 186, 187, 188, 189, 190, 191, 192, 193, 194, 195, 196, 197, 198, 199, 200, 201, 202, 203, 204, 205, 206, 207, 208, 209, 210, 211, 212, 213, 214, 215, 216, 217, 218, 219, 220, 221, 222, 223, 224, 225, 226, 227, 228, 229, 230, 231, 232, 233, 234, 235, 236, 237, 238, 239, 240, 241, 242, 243, 244, 245, 246, 247, 248, 249, 250] rfl (by decide +kernel)
set_option maxRecDepth 100000 in
theorem gX12_task_X12_refuses : GoodIn wsX12_task (wsV RX12 216 RX12 yX12_refuses wsX12_refuses) := goodIn_app (goodIn_of _ (by decide +kernel)) ggX12_task_X12_refuses
set_option maxRecDepth 100000 in
theorem ggX12_task_X12_copiesTask : GoodIn wsX12_task wsX12_copiesTask := goodIn_r _ [177, 7, 8, 9, 64, 65, 66, 67, 88, 126, 127, 128, 116, 117, 129, 130, 131, 184, 185, 186, 187, 188, 189, 190, 191, 192, 193, 194, 195, 196, 197, 198, 199, 200, 201, 202, 203, 204, 205, 206, 207, 208, 209, 210, 211, 212, 213, 214, 215, 216, 217, 218, 219, 220, 221, 222, 223, 224, 225, 226, 227, 228, 229, 230, 231, 232, 233, 234, 235, 236, 237, 238, 239, 240, 241, 242, 243, 244, 245, 246, 247, 248, 249, 250] rfl (by decide +kernel)
set_option maxRecDepth 100000 in
theorem gX12_task_X12_copiesTask : GoodIn wsX12_task (wsV RX12 349 RX12 yX12_copiesTask wsX12_copiesTask) := goodIn_app (goodIn_of _ (by decide +kernel)) ggX12_task_X12_copiesTask
set_option maxRecDepth 100000 in
theorem ggX12_task_X12_beginsChoice : GoodIn wsX12_task wsX12_beginsChoice := goodIn_r _ [181, 182, 8, 183, 129, 131, 184, 185, 186, 187, 188, 189, 190, 191, 192, 193, 194, 195, 196, 197, 198, 199, 200, 201, 202, 203, 204, 205, 206, 207, 208, 209, 210, 211, 212, 213, 214, 215, 216, 217, 218, 219, 220, 221, 222, 223, 224, 225, 226, 227, 228, 229, 230, 231, 232, 233, 234, 235, 236, 237, 238, 239, 240, 241, 242, 243, 244, 245, 246, 247, 248, 249, 250] rfl (by decide +kernel)
set_option maxRecDepth 100000 in
theorem gX12_task_X12_beginsChoice : GoodIn wsX12_task (wsV RX12 352 RX12 yX12_beginsChoice wsX12_beginsChoice) := goodIn_app (goodIn_of _ (by decide +kernel)) ggX12_task_X12_beginsChoice
set_option maxRecDepth 100000 in
theorem ggX12_isNumber_X12_isIn : GoodIn wsX12_isNumber wsX12_isIn := goodIn_r _ [5] rfl (by decide +kernel)
set_option maxRecDepth 100000 in
theorem gX12_isNumber_X12_isIn : GoodIn wsX12_isNumber (va_wsS RX12 263 yX12_isIn wsX12_isIn) := goodIn_app (goodIn_of _ (by decide +kernel)) ggX12_isNumber_X12_isIn
set_option maxRecDepth 100000 in
theorem ggX12_isFormat_X12_isIn : GoodIn wsX12_isFormat wsX12_isIn := goodIn_r _ [5] rfl (by decide +kernel)
set_option maxRecDepth 100000 in
theorem gX12_isFormat_X12_isIn : GoodIn wsX12_isFormat (va_wsS RX12 263 yX12_isIn wsX12_isIn) := goodIn_app (goodIn_of _ (by decide +kernel)) ggX12_isFormat_X12_isIn
set_option maxRecDepth 100000 in
theorem ggX12_laysFree_X12_isFree : GoodIn wsX12_laysFree wsX12_isFree := goodIn_r _ [9, 2, 3, 10, 11, 12, 13, 14, 15, 16, 17, 18, 19, 20, 21, 22, 23, 24, 25, 26, 27, 28, 29, 30, 31, 32, 33, 34, 35, 36, 37, 38, 39, 40, 41, 42, 43, 44, 45, 46, 47, 48, 49, 50, 51, 52, 53, 54, 55, 56, 57, 58, 59, 60, 61, 62, 63, 64, 65, 66, 67, 68, 69, 70, 71, 72, 73, 74, 75, 76, 77] rfl (by decide +kernel)
set_option maxRecDepth 100000 in
theorem gX12_laysFree_X12_isFree : GoodIn wsX12_laysFree (wsV RX12 355 RX12 yX12_isFree wsX12_isFree) := goodIn_app (goodIn_of _ (by decide +kernel)) ggX12_laysFree_X12_isFree
set_option maxRecDepth 100000 in
theorem ggX12_has_X12_laysFree : GoodIn wsX12_has wsX12_laysFree := goodIn_r _ [10, 3, 1, 11, 12, 13, 14, 15, 9, 16, 17, 32, 33, 34, 35, 36, 37, 38, 39, 40, 41, 42, 43, 44, 45, 46, 47, 48, 49, 50, 51, 52, 53, 54, 55, 56, 57, 58, 59, 60, 61, 62, 63, 64, 65, 66, 67, 68, 69, 70, 71, 72, 73, 74, 75, 76, 77, 78, 79, 80, 81, 82, 83, 84, 85, 86, 87, 88, 89, 90, 91, 92, 93, 94, 95, 96, 97, 98] rfl (by decide +kernel)
set_option maxRecDepth 100000 in
theorem gX12_has_X12_laysFree : GoodIn wsX12_has (wsV RX12 358 RX12 yX12_laysFree wsX12_laysFree) := goodIn_app (goodIn_of _ (by decide +kernel)) ggX12_has_X12_laysFree
set_option maxRecDepth 100000 in
theorem ggX12_has_X12_inputs : GoodIn wsX12_has wsX12_inputs := goodIn_r _ [21, 1, 22, 32, 33, 34, 35, 36, 37, 38, 39, 40, 41, 42, 43, 44, 45, 46, 47, 48, 49, 50, 51, 52, 53, 54, 55, 56, 57, 58, 59, 60, 61, 62, 63, 64, 65, 66, 67, 68, 69, 70, 71, 72, 73, 74, 75, 76, 77, 78, 79, 80, 81, 82, 83, 84, 85, 86, 87, 88, 89, 90, 91, 92, 93, 94, 95, 96, 97, 98] rfl (by decide +kernel)
set_option maxRecDepth 100000 in
theorem gX12_has_X12_inputs : GoodIn wsX12_has (wsV RX12 361 RX12 yX12_inputs wsX12_inputs) := goodIn_app (goodIn_of _ (by decide +kernel)) ggX12_has_X12_inputs
set_option maxRecDepth 100000 in
theorem ggX12_has_X12_answers : GoodIn wsX12_has wsX12_answers := goodIn_r _ [26, 1, 27, 32, 33, 34, 35, 36, 37, 38, 39, 40, 41, 42, 43, 44, 45, 46, 47, 48, 49, 50, 51, 52, 53, 54, 55, 56, 57, 58, 59, 60, 61, 62, 63, 64, 65, 66, 67, 68, 69, 70, 71, 72, 73, 74, 75, 76, 77, 78, 79, 80, 81, 82, 83, 84, 85, 86, 87, 88, 89, 90, 91, 92, 93, 94, 95, 96, 97, 98] rfl (by decide +kernel)
set_option maxRecDepth 100000 in
theorem gX12_has_X12_answers : GoodIn wsX12_has (wsV RX12 364 RX12 yX12_answers wsX12_answers) := goodIn_app (goodIn_of _ (by decide +kernel)) ggX12_has_X12_answers
set_option maxRecDepth 100000 in
theorem ggX12_has_X12_groups : GoodIn wsX12_has wsX12_groups := goodIn_r _ [31, 1, 11, 32, 33, 34, 35, 36, 37, 38, 39, 40, 41, 42, 43, 44, 45, 46, 47, 48, 49, 50, 51, 52, 53, 54, 55, 56, 57, 58, 59, 60, 61, 62, 63, 64, 65, 66, 67, 68, 69, 70, 71, 72, 73, 74, 75, 76, 77, 78, 79, 80, 81, 82, 83, 84, 85, 86, 87, 88, 89, 90, 91, 92, 93, 94, 95, 96, 97, 98] rfl (by decide +kernel)
set_option maxRecDepth 100000 in
theorem gX12_has_X12_groups : GoodIn wsX12_has (wsV RX12 367 RX12 yX12_groups wsX12_groups) := goodIn_app (goodIn_of _ (by decide +kernel)) ggX12_has_X12_groups
set_option maxRecDepth 100000 in
theorem ggX12_letter_X12_isFormat : GoodIn wsX12_letter wsX12_isFormat := goodIn_r _ [8, 9, 10, 11, 7, 12, 18, 19, 20, 21, 22, 23, 24, 25, 26, 27, 28, 29, 30, 31, 32, 33, 34, 35, 36, 37, 38, 39, 40, 41, 42, 43, 44, 45, 46, 47, 48, 49, 50, 51, 52, 53, 54, 55, 56, 57, 58, 59, 60, 61, 62, 63, 64, 65, 66, 67, 68, 69, 70, 71, 72, 73, 74, 75, 76, 77, 78, 79, 80, 81, 82, 83, 84] rfl (by decide +kernel)
set_option maxRecDepth 100000 in
theorem gX12_letter_X12_isFormat : GoodIn wsX12_letter (wsV RX12 370 RX12 yX12_isFormat wsX12_isFormat) := goodIn_app (goodIn_of _ (by decide +kernel)) ggX12_letter_X12_isFormat
set_option maxRecDepth 100000 in
theorem ggX12_letter_X12_isNumber : GoodIn wsX12_letter wsX12_isNumber := goodIn_r _ [16, 17, 10, 11, 7, 12, 18, 19, 20, 21, 22, 23, 24, 25, 26, 27, 28, 29, 30, 31, 32, 33, 34, 35, 36, 37, 38, 39, 40, 41, 42, 43, 44, 45, 46, 47, 48, 49, 50, 51, 52, 53, 54, 55, 56, 57, 58, 59, 60, 61, 62, 63, 64, 65, 66, 67, 68, 69, 70, 71, 72, 73, 74, 75, 76, 77, 78, 79, 80, 81, 82, 83, 84] rfl (by decide +kernel)
set_option maxRecDepth 100000 in
theorem gX12_letter_X12_isNumber : GoodIn wsX12_letter (wsV RX12 373 RX12 yX12_isNumber wsX12_isNumber) := goodIn_app (goodIn_of _ (by decide +kernel)) ggX12_letter_X12_isNumber
set_option maxRecDepth 100000 in
theorem ggX12_letter_X12_isIn : GoodIn wsX12_letter wsX12_isIn := goodIn_r _ [12] rfl (by decide +kernel)
set_option maxRecDepth 100000 in
theorem gX12_letter_X12_isIn : GoodIn wsX12_letter (va_wsS RX12 263 yX12_isIn wsX12_isIn) := goodIn_app (goodIn_of _ (by decide +kernel)) ggX12_letter_X12_isIn
set_option maxRecDepth 100000 in
theorem ggX12_format_X12_isFormat : GoodIn wsX12_format wsX12_isFormat := goodIn_r _ [8, 9, 10, 11, 7, 12, 13, 14, 15, 16, 17, 18, 19, 20, 21, 22, 23, 24, 25, 26, 27, 28, 29, 30, 31, 32, 33, 34, 35, 36, 37, 38, 39, 40, 41, 42, 43, 44, 45, 46, 47, 48, 49, 50, 51, 52, 53, 54, 55, 56, 57, 58, 59, 60, 61, 62, 63, 64, 65, 66, 67, 68, 69, 70, 71, 72, 73, 74, 75, 76, 77, 78, 79] rfl (by decide +kernel)
set_option maxRecDepth 100000 in
theorem gX12_format_X12_isFormat : GoodIn wsX12_format (wsV RX12 370 RX12 yX12_isFormat wsX12_isFormat) := goodIn_app (goodIn_of _ (by decide +kernel)) ggX12_format_X12_isFormat
set_option maxRecDepth 100000 in
theorem ggX12_number__X12_isNumber : GoodIn wsX12_number_ wsX12_isNumber := goodIn_r _ [10, 11, 12, 13, 9, 14, 20, 21, 22, 23, 24, 25, 26, 27, 28, 29, 30, 31, 32, 33, 34, 35, 36, 37, 38, 39, 40, 41, 42, 43, 44, 45, 46, 47, 48, 49, 50, 51, 52, 53, 54, 55, 56, 57, 58, 59, 60, 61, 62, 63, 64, 65, 66, 67, 68, 69, 70, 71, 72, 73, 74, 75, 76, 77, 78, 79, 80, 81, 82, 83, 84, 85, 86] rfl (by decide +kernel)
set_option maxRecDepth 100000 in
theorem gX12_number__X12_isNumber : GoodIn wsX12_number_ (wsV RX12 373 RX12 yX12_isNumber wsX12_isNumber) := goodIn_app (goodIn_of _ (by decide +kernel)) ggX12_number__X12_isNumber
set_option maxRecDepth 100000 in
theorem ggX12_number__X12_groupPlace : GoodIn wsX12_number_ wsX12_groupPlace := goodIn_r _ [18, 19, 20, 21, 22, 23, 24, 25, 26, 27, 28, 29, 30, 31, 32, 33, 34, 35, 36, 37, 38, 39, 40, 41, 42, 43, 44, 45, 46, 47, 48, 49, 50, 51, 52, 53, 54, 55, 56, 57, 58, 59, 60, 61, 62, 63, 64, 65, 66, 67, 68, 69, 70, 71, 72, 73, 74, 75, 76, 77, 78, 79, 80, 81, 82, 83, 84, 85, 86] rfl (by decide +kernel)
set_option maxRecDepth 100000 in
theorem gX12_number__X12_groupPlace : GoodIn wsX12_number_ (wsV RX12 378 RX12 yX12_groupPlace wsX12_groupPlace) := goodIn_app (goodIn_of _ (by decide +kernel)) ggX12_number__X12_groupPlace
set_option maxRecDepth 100000 in
theorem ggX12_told_X12_isNumber : GoodIn wsX12_told wsX12_isNumber := goodIn_r _ [11, 12, 13, 14, 10, 15, 16, 17, 18, 19, 20, 21, 22, 23, 24, 25, 26, 27, 28, 29, 30, 31, 32, 33, 34, 35, 36, 37, 38, 39, 40, 41, 42, 43, 44, 45, 46, 47, 48, 49, 50, 51, 52, 53, 54, 55, 56, 57, 58, 59, 60, 61, 62, 63, 64, 65, 66, 67, 68, 69, 70, 71, 72, 73, 74, 75, 76, 77, 78, 79, 80, 81, 82] rfl (by decide +kernel)
set_option maxRecDepth 100000 in
theorem gX12_told_X12_isNumber : GoodIn wsX12_told (wsV RX12 373 RX12 yX12_isNumber wsX12_isNumber) := goodIn_app (goodIn_of _ (by decide +kernel)) ggX12_told_X12_isNumber
