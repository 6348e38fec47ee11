set_option maxRecDepth 20000 in
theorem ggX0_init_X6_init : GoodIn wsX0_init wsX6_init := goodIn_r _ [17, 18, 2, 3, 19, 20, 21, 22, 23, 28, 29, 30] (by decide +kernel) (by decide +kernel)
set_option maxRecDepth 20000 in
theorem gX0_init_X6_init_n11 : GoodIn wsX0_init (wsX6_init) := ggX0_init_X6_init
set_option maxRecDepth 20000 in
theorem ggX0_init_X7_init : GoodIn wsX0_init wsX7_init := goodIn_r _ [25, 26, 2, 3, 19, 27, 36, 37, 38] (by decide +kernel) (by decide +kernel)
set_option maxRecDepth 20000 in
theorem gX0_init_X7_init_n20 : GoodIn wsX0_init (wsX7_init) := ggX0_init_X7_init
set_option maxRecDepth 20000 in
theorem ggX0_holds_X0_forget : GoodIn wsX0_holds wsX0_forget := goodIn_r _ [11, 5, 6, 176, 177, 178, 179, 180] (by decide +kernel) (by decide +kernel)
set_option maxRecDepth 20000 in
theorem gX0_holds_X0_forget : GoodIn wsX0_holds (wsV RX0 36 RX0 yX0_forget wsX0_forget) := goodIn_app (goodIn_of _ (by decide +kernel)) ggX0_holds_X0_forget
set_option maxRecDepth 20000 in
theorem ggX1_init_X7_init : GoodIn wsX1_init wsX7_init := goodIn_r _ [18, 19, 2, 3, 20, 21, 22, 23, 24] (by decide +kernel) (by decide +kernel)
set_option maxRecDepth 20000 in
theorem gX1_init_X7_init_n11 : GoodIn wsX1_init (wsX7_init) := ggX1_init_X7_init
set_option maxRecDepth 20000 in
theorem ggX3_init_X7_init : GoodIn wsX3_init wsX7_init := goodIn_r _ [19, 20, 2, 3, 21, 22, 23, 24, 25] (by decide +kernel) (by decide +kernel)
set_option maxRecDepth 20000 in
theorem gX3_init_X7_init_n11 : GoodIn wsX3_init (wsX7_init) := ggX3_init_X7_init
set_option maxRecDepth 20000 in
theorem ggX3_goByHalves_X9_hasChoice : GoodIn wsX3_goByHalves wsX9_hasChoice := goodIn_r _ [15, 16, 17, 18, 19, 173, 174, 175, 176, 177, 178, 179, 180, 181, 182, 183, 184, 185, 186, 187, 188, 189, 190, 191, 192, 193, 194, 195, 196, 197] (by decide +kernel) (by decide +kernel)
set_option maxRecDepth 20000 in
theorem gX3_goByHalves_X9_hasChoice : GoodIn wsX3_goByHalves (wsV RX3 49 RX9 yX9_hasChoice wsX9_hasChoice) := goodIn_app (goodIn_of _ (by decide +kernel)) ggX3_goByHalves_X9_hasChoice
set_option maxRecDepth 20000 in
theorem ggX5_init_X10_init : GoodIn wsX5_init wsX10_init := goodIn_r _ [11, 12, 2, 3, 13, 14, 15, 16, 17, 18, 19, 20, 21, 22, 23, 24, 25, 26, 27, 28, 29, 30, 31, 32, 33, 34, 35, 36, 37, 38, 39, 40, 41, 42, 43, 44, 45, 46, 47, 48, 49, 50, 51, 52, 53, 54, 55, 56, 57, 58, 59, 60, 61, 62, 63, 64, 65, 66, 67, 68, 69, 70, 71, 72, 73] (by decide +kernel) (by decide +kernel)
set_option maxRecDepth 20000 in
theorem gX5_init_X10_init : GoodIn wsX5_init (wsX10_init) := ggX5_init_X10_init
set_option maxRecDepth 20000 in
theorem ggX5_read_X9_clear : GoodIn wsX5_read wsX9_clear := goodIn_r _ [12, 13, 14, 15, 16, 17, 211, 212, 213, 214, 215, 216, 217, 218, 219, 220, 221, 222, 223, 224, 225, 226, 227, 228, 229] (by decide +kernel) (by decide +kernel)
set_option maxRecDepth 20000 in
theorem gX5_read_X9_clear : GoodIn wsX5_read (wsV RX5 25 RX9 yX9_clear wsX9_clear) := goodIn_app (goodIn_of _ (by decide +kernel)) ggX5_read_X9_clear
set_option maxRecDepth 20000 in
theorem ggX5_read_X10_open : GoodIn wsX5_read wsX10_open := goodIn_r _ [22, 23, 24, 25, 26, 27, 28, 29, 30, 31, 32, 33, 34, 35, 36, 21, 37, 38, 39, 40, 41, 42, 43, 44, 45, 46, 47, 48, 49, 50, 51, 52, 203, 204, 205, 206, 207, 208, 209, 210] (by decide +kernel) (by decide +kernel)
set_option maxRecDepth 20000 in
theorem gX5_read_X10_open : GoodIn wsX5_read (wsV RX5 30 RX10 yX10_open wsX10_open) := goodIn_app (goodIn_of _ (by decide +kernel)) ggX5_read_X10_open
set_option maxRecDepth 20000 in
theorem ggX5_read_X5_stopAt : GoodIn wsX5_read wsX5_stopAt := goodIn_r _ [66, 1, 2, 199, 200, 201, 202] (by decide +kernel) (by decide +kernel)
set_option maxRecDepth 20000 in
theorem gX5_read_X5_stopAt : GoodIn wsX5_read (wsV RX5 53 RX5 yX5_stopAt wsX5_stopAt) := goodIn_app (goodIn_of _ (by decide +kernel)) ggX5_read_X5_stopAt
set_option maxRecDepth 20000 in
theorem ggX9_init_X4_init : GoodIn wsX9_init wsX4_init := goodIn_r _ [22, 23, 2, 3, 4, 24, 25, 26, 27, 28, 29, 30, 31, 55, 56, 57, 58, 59, 60, 61, 62, 63, 64] (by decide +kernel) (by decide +kernel)
set_option maxRecDepth 20000 in
theorem gX9_init_X4_init_n26 : GoodIn wsX9_init (wsX4_init) := ggX9_init_X4_init
set_option maxRecDepth 20000 in
theorem ggX9_init_X2_init : GoodIn wsX9_init wsX2_init := goodIn_r _ [33, 34, 2, 3, 4, 35, 36, 37, 65, 66, 67, 68, 69, 70] (by decide +kernel) (by decide +kernel)
set_option maxRecDepth 20000 in
theorem gX9_init_X2_init_n33 : GoodIn wsX9_init (wsX2_init) := ggX9_init_X2_init
set_option maxRecDepth 20000 in
theorem ggX9_init_X6_init : GoodIn wsX9_init wsX6_init := goodIn_r _ [39, 40, 2, 3, 41, 42, 43, 44, 45, 71, 72, 73] (by decide +kernel) (by decide +kernel)
set_option maxRecDepth 20000 in
theorem gX9_init_X6_init_n40 : GoodIn wsX9_init (wsX6_init) := ggX9_init_X6_init
set_option maxRecDepth 20000 in
theorem ggX9_isAnswer_X9_hasNumber : GoodIn wsX9_isAnswer wsX9_hasNumber := goodIn_r _ [7, 1, 8, 9, 10, 11, 12, 13, 14, 15, 16, 17, 18, 19, 20, 21, 22, 23, 24, 25, 26, 27] (by decide +kernel) (by decide +kernel)
set_option maxRecDepth 20000 in
theorem gX9_isAnswer_X9_hasNumber : GoodIn wsX9_isAnswer (wsV RX9 70 RX9 yX9_hasNumber wsX9_hasNumber) := goodIn_app (goodIn_of _ (by decide +kernel)) ggX9_isAnswer_X9_hasNumber
set_option maxRecDepth 20000 in
theorem ggX9_isInput_X9_hasNumber : GoodIn wsX9_isInput wsX9_hasNumber := goodIn_r _ [7, 1, 8, 9, 10, 11, 12, 13, 14, 15, 16, 17, 18, 19, 20, 21, 22, 23, 24, 25, 26, 27] (by decide +kernel) (by decide +kernel)
set_option maxRecDepth 20000 in
theorem gX9_isInput_X9_hasNumber : GoodIn wsX9_isInput (wsV RX9 70 RX9 yX9_hasNumber wsX9_hasNumber) := goodIn_app (goodIn_of _ (by decide +kernel)) ggX9_isInput_X9_hasNumber
set_option maxRecDepth 20000 in
theorem ggX10_init_J0_length_8abf5 : GoodIn wsX10_init wsJ0_length_8abf5 := goodIn_r _ [12, 13, 14, 15, 16, 11, 17, 18, 19] (by decide +kernel) (by decide +kernel)
set_option maxRecDepth 20000 in
theorem gX10_init_J0_length_8abf5 : GoodIn wsX10_init (wsV RX10 21 RJ0 yJ0_length_8abf5 wsJ0_length_8abf5) := goodIn_app (goodIn_of _ (by decide +kernel)) ggX10_init_J0_length_8abf5
set_option maxRecDepth 20000 in
theorem ggX10_init_J0_charAt_5068e : GoodIn wsX10_init wsJ0_charAt_5068e := goodIn_r _ [23, 13, 24, 25, 26, 11, 27, 18, 19, 28, 29, 30, 31, 32, 33, 34, 35, 36, 37, 38, 39, 40, 41, 42, 43, 44, 45, 46, 47, 48, 49, 50, 51, 52, 53, 54, 55, 56] (by decide +kernel) (by decide +kernel)
set_option maxRecDepth 20000 in
theorem gX10_init_J0_charAt_5068e : GoodIn wsX10_init (wsV RX10 27 RJ0 yJ0_charAt_5068e wsJ0_charAt_5068e) := goodIn_app (goodIn_of _ (by decide +kernel)) ggX10_init_J0_charAt_5068e
set_option maxRecDepth 20000 in
theorem ggX10_open_X10_advance : GoodIn wsX10_open wsX10_advance := goodIn_r _ [16, 10, 11, 9, 1, 17, 18, 19, 20, 21, 15, 22, 23, 24, 25, 26, 27, 28, 29, 30, 31, 32, 33, 34, 35, 36, 37, 38, 39] (by decide +kernel) (by decide +kernel)
set_option maxRecDepth 20000 in
theorem gX10_open_X10_advance : GoodIn wsX10_open (wsV RX10 49 RX10 yX10_advance wsX10_advance) := goodIn_app (goodIn_of _ (by decide +kernel)) ggX10_open_X10_advance
set_option maxRecDepth 20000 in
theorem ggX11_init_X5_init : GoodIn wsX11_init wsX5_init := goodIn_r _ [46, 47, 2, 3, 48, 49, 50, 51, 52, 53, 54, 55, 56, 6, 57, 4, 58, 59, 60, 61, 62, 63, 64, 65, 66, 67, 68, 69, 70, 71, 72, 73, 74, 75, 76, 77, 78, 79, 80, 81, 82, 83, 84, 85, 86, 87, 88, 89, 90, 91, 92, 93, 94, 95, 96, 97, 98, 99, 100, 101, 102, 103, 104, 105, 106, 107, 267, 268, 269, 270, 271, 272, 273, 274, 211, 212, 213, 214] (by decide +kernel) (by decide +kernel)
set_option maxRecDepth 20000 in
theorem gX11_init_X5_init_n19 : GoodIn wsX11_init (wsX5_init) := ggX11_init_X5_init
set_option maxRecDepth 20000 in
theorem ggX11_init_X9_init : GoodIn wsX11_init wsX9_init := goodIn_r _ [109, 110, 2, 3, 6, 111, 112, 113, 114, 115, 116, 117, 118, 119, 120, 121, 122, 123, 25, 26, 124, 125, 126, 127, 128, 129, 130, 131, 132, 133, 134, 135, 136, 137, 138, 139, 140, 141, 142, 143, 144, 145, 146, 147, 148, 149, 215, 216, 217, 218, 219, 220, 221, 222, 223, 275, 276, 277, 278, 279, 280, 281, 282, 283, 284, 285, 286, 287, 288, 289, 290, 227, 228, 229] (by decide +kernel) (by decide +kernel)
set_option maxRecDepth 20000 in
theorem gX11_init_X9_init_n26 : GoodIn wsX11_init (wsX9_init) := ggX11_init_X9_init
set_option maxRecDepth 20000 in
theorem ggX11_init_X7_init : GoodIn wsX11_init wsX7_init := goodIn_r _ [151, 152, 2, 3, 145, 153, 224, 225, 226] (by decide +kernel) (by decide +kernel)
set_option maxRecDepth 20000 in
theorem gX11_init_X7_init_n42 : GoodIn wsX11_init (wsX7_init) := ggX11_init_X7_init
set_option maxRecDepth 20000 in
theorem ggX11_init_X6_init : GoodIn wsX11_init wsX6_init := goodIn_r _ [143, 144, 2, 3, 145, 146, 147, 148, 149, 227, 228, 229] (by decide +kernel) (by decide +kernel)
set_option maxRecDepth 20000 in
theorem gX11_init_X6_init_n52 : GoodIn wsX11_init (wsX6_init) := ggX11_init_X6_init
set_option maxRecDepth 20000 in
theorem ggX11_init_X1_init : GoodIn wsX11_init wsX1_init := goodIn_r _ [155, 156, 2, 3, 157, 20, 21, 158, 6, 159, 160, 161, 162, 163, 164, 165, 166, 150, 151, 152, 145, 153, 224, 225, 226, 230, 231, 232, 233, 234, 235, 236, 237, 238, 239, 240, 241, 242, 243] (by decide +kernel) (by decide +kernel)
set_option maxRecDepth 20000 in
theorem gX11_init_X1_init_n59 : GoodIn wsX11_init (wsX1_init) := ggX11_init_X1_init
set_option maxRecDepth 20000 in
theorem ggX11_init_X3_init : GoodIn wsX11_init wsX3_init := goodIn_r _ [168, 169, 2, 3, 170, 20, 21, 171, 6, 172, 148, 173, 174, 175, 176, 177, 178, 179, 150, 151, 152, 145, 153, 224, 225, 226, 244, 245, 246, 247, 248, 249, 250, 251, 252, 253, 254, 255, 256, 257, 258, 259] (by decide +kernel) (by decide +kernel)
set_option maxRecDepth 20000 in
theorem gX11_init_X3_init_n66 : GoodIn wsX11_init (wsX3_init) := ggX11_init_X3_init
set_option maxRecDepth 20000 in
theorem ggX11_init_X0_init : GoodIn wsX11_init wsX0_init := goodIn_r _ [181, 182, 2, 3, 183, 25, 26, 184, 185, 20, 21, 186, 6, 187, 188, 189, 142, 143, 144, 145, 146, 147, 148, 149, 150, 151, 152, 153, 227, 228, 229, 260, 261, 262, 263, 264, 224, 225, 226] (by decide +kernel) (by decide +kernel)
set_option maxRecDepth 20000 in
theorem gX11_init_X0_init_n73 : GoodIn wsX11_init (wsX0_init) := ggX11_init_X0_init
set_option maxRecDepth 20000 in
theorem ggX11_init_X8_init : GoodIn wsX11_init wsX8_init := goodIn_r _ [191, 192, 2, 3, 145, 193, 194, 265, 266] (by decide +kernel) (by decide +kernel)
set_option maxRecDepth 20000 in
theorem gX11_init_X8_init_n80 : GoodIn wsX11_init (wsX8_init) := ggX11_init_X8_init
set_option maxRecDepth 20000 in
theorem ggX11_feed_X11_putBytes : GoodIn wsX11_feed wsX11_putBytes := goodIn_r _ [11, 1, 12, 13, 14, 15, 16, 17, 18, 19, 20, 21, 22, 23, 24, 25, 26, 27, 28] (by decide +kernel) (by decide +kernel)
set_option maxRecDepth 20000 in
theorem gX11_feed_X11_putBytes : GoodIn wsX11_feed (wsV RX11 96 RX11 yX11_putBytes wsX11_putBytes) := goodIn_app (goodIn_of _ (by decide +kernel)) ggX11_feed_X11_putBytes
set_option maxRecDepth 20000 in
theorem ggX11_end_X11_refuse : GoodIn wsX11_end wsX11_refuse := goodIn_r _ [6, 7, 8, 9, 10, 11, 12, 13, 14, 15, 16, 17, 18, 19, 20, 21, 22, 23] (by decide +kernel) (by decide +kernel)
set_option maxRecDepth 20000 in
theorem gX11_end_X11_refuse : GoodIn wsX11_end (wsV RX11 92 RX11 yX11_refuse wsX11_refuse) := goodIn_app (goodIn_of _ (by decide +kernel)) ggX11_end_X11_refuse
set_option maxRecDepth 20000 in
theorem ggX11_task_X5_read : GoodIn wsX11_task wsX5_read := goodIn_r _ [17, 18, 19, 20, 21, 22, 23, 24, 25, 26, 27, 28, 29, 30, 31, 32, 33, 34, 35, 36, 37, 38, 39, 40, 41, 42, 43, 44, 45, 46, 47, 48, 49, 50, 51, 52, 53, 54, 55, 56, 57, 58, 59, 60, 61, 62, 63, 64, 65, 66, 67, 68, 69, 70, 71, 72, 16, 73, 74, 75, 76, 77, 78, 79, 80, 81, 82, 83, 84, 85, 86, 87, 88, 89, 90, 91, 92, 93, 94, 95, 96, 97, 98, 99, 100, 101, 102, 103, 104, 105, 106, 107, 108, 109, 110, 111, 112, 113, 114, 115, 116, 117, 118, 119, 120, 121, 122, 123, 124, 125, 126, 127, 128, 129, 130, 131, 132, 133, 134, 135, 136, 137, 138, 139, 140, 141, 142, 143, 144, 145, 146, 147, 148, 149, 150, 151, 152, 153, 154, 155, 156, 157, 158, 159, 160, 161, 162, 163, 164, 165, 166, 167, 168, 169, 170, 171, 172, 173, 174, 175, 176, 177, 178, 179, 180, 181, 182, 183, 184, 185, 186, 187, 188, 189, 190, 191, 192, 193, 194, 195, 196, 197, 198, 199, 200, 201, 202, 203, 204, 205, 206, 207, 208, 209, 210, 211, 212, 213, 214, 382, 383, 384, 385, 386, 387, 388, 389, 390, 391, 392, 393, 363, 364, 365, 366, 367, 368, 369, 370, 371, 372, 373, 374, 375, 376, 377, 378, 379, 380, 381] (by decide +kernel) (by decide +kernel)
set_option maxRecDepth 20000 in
theorem gX11_task_X5_read : GoodIn wsX11_task (wsV RX11 100 RX5 yX5_read wsX5_read) := goodIn_app (goodIn_of _ (by decide +kernel)) ggX11_task_X5_read
set_option maxRecDepth 20000 in
theorem ggX11_task_X11_refuse : GoodIn wsX11_task wsX11_refuse := goodIn_r _ [219, 220, 347, 348, 349, 350, 351, 352, 353, 354, 355, 356, 357, 358, 359, 360, 361, 362] (by decide +kernel) (by decide +kernel)
set_option maxRecDepth 20000 in
theorem gX11_task_X11_refuse : GoodIn wsX11_task (wsV RX11 92 RX11 yX11_refuse wsX11_refuse) := goodIn_app (goodIn_of _ (by decide +kernel)) ggX11_task_X11_refuse
set_option maxRecDepth 20000 in
theorem ggX11_has_X4_countAnswers : GoodIn wsX11_has wsX4_countAnswers := goodIn_r _ [15, 16, 17, 43, 44, 45, 46, 47, 48, 49, 50, 51, 52] (by decide +kernel) (by decide +kernel)
set_option maxRecDepth 20000 in
theorem gX11_has_X4_countAnswers : GoodIn wsX11_has (wsV RX11 143 RX4 yX4_countAnswers wsX4_countAnswers) := goodIn_app (goodIn_of _ (by decide +kernel)) ggX11_has_X4_countAnswers
set_option maxRecDepth 20000 in
theorem ggX11_letter_X9_hasFormat : GoodIn wsX11_letter wsX9_hasFormat := goodIn_r _ [9, 10, 37, 38, 39, 40, 41, 42, 43, 44, 45] (by decide +kernel) (by decide +kernel)
set_option maxRecDepth 20000 in
theorem gX11_letter_X9_hasFormat : GoodIn wsX11_letter (wsV RX11 153 RX9 yX9_hasFormat wsX9_hasFormat) := goodIn_app (goodIn_of _ (by decide +kernel)) ggX11_letter_X9_hasFormat
set_option maxRecDepth 20000 in
theorem ggX11_letter_X9_hasNumber : GoodIn wsX11_letter wsX9_hasNumber := goodIn_r _ [14, 15, 16, 37, 38, 39, 40, 41, 42, 43, 44, 45, 46, 47, 48, 49, 50, 51, 52, 53, 54, 55] (by decide +kernel) (by decide +kernel)
set_option maxRecDepth 20000 in
theorem gX11_letter_X9_hasNumber : GoodIn wsX11_letter (wsV RX11 157 RX9 yX9_hasNumber wsX9_hasNumber) := goodIn_app (goodIn_of _ (by decide +kernel)) ggX11_letter_X9_hasNumber
set_option maxRecDepth 20000 in
theorem ggX11_format_X9_hasFormat : GoodIn wsX11_format wsX9_hasFormat := goodIn_r _ [9, 10, 27, 28, 29, 30, 31, 32, 33, 34, 35] (by decide +kernel) (by decide +kernel)
set_option maxRecDepth 20000 in
theorem gX11_format_X9_hasFormat : GoodIn wsX11_format (wsV RX11 153 RX9 yX9_hasFormat wsX9_hasFormat) := goodIn_app (goodIn_of _ (by decide +kernel)) ggX11_format_X9_hasFormat
set_option maxRecDepth 20000 in
theorem ggX11_number_X9_hasNumber : GoodIn wsX11_number wsX9_hasNumber := goodIn_r _ [12, 13, 14, 38, 39, 40, 41, 42, 43, 44, 45, 46, 47, 48, 49, 50, 51, 52, 53, 54, 55, 56] (by decide +kernel) (by decide +kernel)
set_option maxRecDepth 20000 in
theorem gX11_number_X9_hasNumber : GoodIn wsX11_number (wsV RX11 157 RX9 yX9_hasNumber wsX9_hasNumber) := goodIn_app (goodIn_of _ (by decide +kernel)) ggX11_number_X9_hasNumber
set_option maxRecDepth 20000 in
theorem ggX11_told_X9_hasNumber : GoodIn wsX11_told wsX9_hasNumber := goodIn_r _ [8, 9, 10, 39, 40, 41, 42, 43, 44, 45, 46, 47, 48, 49, 50, 51, 52, 53, 54, 55, 56, 57] (by decide +kernel) (by decide +kernel)
set_option maxRecDepth 20000 in
theorem gX11_told_X9_hasNumber : GoodIn wsX11_told (wsV RX11 157 RX9 yX9_hasNumber wsX9_hasNumber) := goodIn_app (goodIn_of _ (by decide +kernel)) ggX11_told_X9_hasNumber
set_option maxRecDepth 20000 in
theorem ggX11_range_X9_hasNumber : GoodIn wsX11_range wsX9_hasNumber := goodIn_r _ [11, 12, 13, 30, 31, 32, 33, 34, 35, 36, 37, 38, 42, 43, 44, 45, 46, 47, 48, 49, 50, 51] (by decide +kernel) (by decide +kernel)
set_option maxRecDepth 20000 in
theorem gX11_range_X9_hasNumber : GoodIn wsX11_range (wsV RX11 157 RX9 yX9_hasNumber wsX9_hasNumber) := goodIn_app (goodIn_of _ (by decide +kernel)) ggX11_range_X9_hasNumber
set_option maxRecDepth 20000 in
theorem ggX11_uses_X9_hasNumber : GoodIn wsX11_uses wsX9_hasNumber := goodIn_r _ [7, 8, 9, 40, 41, 42, 43, 44, 45, 46, 47, 48, 49, 50, 51, 52, 53, 54, 55, 56, 57, 58] (by decide +kernel) (by decide +kernel)
set_option maxRecDepth 20000 in
theorem gX11_uses_X9_hasNumber : GoodIn wsX11_uses (wsV RX11 157 RX9 yX9_hasNumber wsX9_hasNumber) := goodIn_app (goodIn_of _ (by decide +kernel)) ggX11_uses_X9_hasNumber
set_option maxRecDepth 20000 in
theorem ggX11_depth_X9_hasNumber : GoodIn wsX11_depth wsX9_hasNumber := goodIn_r _ [8, 9, 10, 27, 28, 29, 30, 31, 32, 33, 34, 35, 36, 37, 38, 39, 40, 41, 42, 43, 44, 45] (by decide +kernel) (by decide +kernel)
set_option maxRecDepth 20000 in
theorem gX11_depth_X9_hasNumber : GoodIn wsX11_depth (wsV RX11 157 RX9 yX9_hasNumber wsX9_hasNumber) := goodIn_app (goodIn_of _ (by decide +kernel)) ggX11_depth_X9_hasNumber
set_option maxRecDepth 20000 in
theorem ggX11_chosen_X9_hasChoice : GoodIn wsX11_chosen wsX9_hasChoice := goodIn_r _ [7, 8, 9, 10, 11, 37, 38, 39, 40, 41, 42, 43, 44, 45, 46, 47, 48, 49, 50, 51, 52, 53, 54, 55, 56, 57, 58, 59, 60, 61] (by decide +kernel) (by decide +kernel)
set_option maxRecDepth 20000 in
theorem gX11_chosen_X9_hasChoice : GoodIn wsX11_chosen (wsV RX11 220 RX9 yX9_hasChoice wsX9_hasChoice) := goodIn_app (goodIn_of _ (by decide +kernel)) ggX11_chosen_X9_hasChoice
set_option maxRecDepth 20000 in
theorem ggX11_choose_X9_hasChoice : GoodIn wsX11_choose wsX9_hasChoice := goodIn_r _ [9, 10, 11, 12, 13, 57, 58, 59, 60, 61, 62, 63, 64, 65, 72, 73, 74, 75, 76, 77, 78, 79, 80, 81, 66, 67, 68, 69, 70, 71] (by decide +kernel) (by decide +kernel)
set_option maxRecDepth 20000 in
theorem gX11_choose_X9_hasChoice : GoodIn wsX11_choose (wsV RX11 220 RX9 yX9_hasChoice wsX9_hasChoice) := goodIn_app (goodIn_of _ (by decide +kernel)) ggX11_choose_X9_hasChoice
set_option maxRecDepth 20000 in
theorem ggX11_choose_X11_refuse : GoodIn wsX11_choose wsX11_refuse := goodIn_r _ [39, 40, 41, 42, 43, 44, 45, 46, 47, 48, 49, 50, 51, 52, 53, 54, 55, 56] (by decide +kernel) (by decide +kernel)
set_option maxRecDepth 20000 in
theorem gX11_choose_X11_refuse : GoodIn wsX11_choose (wsV RX11 92 RX11 yX11_refuse wsX11_refuse) := goodIn_app (goodIn_of _ (by decide +kernel)) ggX11_choose_X11_refuse
set_option maxRecDepth 20000 in
theorem ggX11_cost_X9_hasChoice : GoodIn wsX11_cost wsX9_hasChoice := goodIn_r _ [7, 8, 9, 10, 11, 55, 56, 57, 58, 59, 60, 61, 62, 63, 64, 65, 66, 67, 68, 69, 70, 71, 72, 73, 74, 75, 76, 77, 78, 79] (by decide +kernel) (by decide +kernel)
set_option maxRecDepth 20000 in
theorem gX11_cost_X9_hasChoice : GoodIn wsX11_cost (wsV RX11 220 RX9 yX9_hasChoice wsX9_hasChoice) := goodIn_app (goodIn_of _ (by decide +kernel)) ggX11_cost_X9_hasChoice
set_option maxRecDepth 20000 in
theorem ggX11_casts_X9_hasChoice : GoodIn wsX11_casts wsX9_hasChoice := goodIn_r _ [7, 8, 9, 10, 11, 44, 45, 46, 47, 48, 49, 50, 51, 52, 53, 54, 55, 56, 57, 58, 59, 60, 61, 62, 63, 64, 65, 66, 67, 68] (by decide +kernel) (by decide +kernel)
set_option maxRecDepth 20000 in
theorem gX11_casts_X9_hasChoice : GoodIn wsX11_casts (wsV RX11 220 RX9 yX9_hasChoice wsX9_hasChoice) := goodIn_app (goodIn_of _ (by decide +kernel)) ggX11_casts_X9_hasChoice
set_option maxRecDepth 20000 in
theorem ggX11_fails_X9_hasChoice : GoodIn wsX11_fails wsX9_hasChoice := goodIn_r _ [10, 11, 12, 13, 14, 114, 115, 116, 117, 118, 119, 120, 121, 122, 126, 127, 128, 129, 130, 131, 132, 133, 134, 135, 136, 137, 138, 139, 140, 141] (by decide +kernel) (by decide +kernel)
set_option maxRecDepth 20000 in
theorem gX11_fails_X9_hasChoice : GoodIn wsX11_fails (wsV RX11 220 RX9 yX9_hasChoice wsX9_hasChoice) := goodIn_app (goodIn_of _ (by decide +kernel)) ggX11_fails_X9_hasChoice
set_option maxRecDepth 20000 in
theorem ggX11_why_X9_hasChoice : GoodIn wsX11_why wsX9_hasChoice := goodIn_r _ [10, 11, 12, 13, 14, 114, 115, 116, 117, 118, 119, 120, 121, 122, 126, 127, 128, 129, 130, 131, 132, 133, 134, 135, 136, 137, 138, 139, 140, 141] (by decide +kernel) (by decide +kernel)
set_option maxRecDepth 20000 in
theorem gX11_why_X9_hasChoice : GoodIn wsX11_why (wsV RX11 220 RX9 yX9_hasChoice wsX9_hasChoice) := goodIn_app (goodIn_of _ (by decide +kernel)) ggX11_why_X9_hasChoice
set_option maxRecDepth 20000 in
theorem ggX11_error_X9_hasChoice : GoodIn wsX11_error wsX9_hasChoice := goodIn_r _ [12, 13, 14, 15, 16, 117, 118, 119, 120, 121, 122, 123, 124, 125, 129, 130, 131, 132, 133, 134, 135, 136, 137, 138, 139, 140, 141, 142, 143, 144] (by decide +kernel) (by decide +kernel)
set_option maxRecDepth 20000 in
theorem gX11_error_X9_hasChoice : GoodIn wsX11_error (wsV RX11 220 RX9 yX9_hasChoice wsX9_hasChoice) := goodIn_app (goodIn_of _ (by decide +kernel)) ggX11_error_X9_hasChoice
set_option maxRecDepth 20000 in
theorem ggX11_slack_X9_isAnswer : GoodIn wsX11_slack wsX9_isAnswer := goodIn_r _ [11, 12, 13, 14, 15, 16, 10, 17, 18, 122, 123, 124, 125, 126, 127, 128, 129, 130, 131, 132, 133, 134, 135, 136, 137, 138, 139, 140] (by decide +kernel) (by decide +kernel)
set_option maxRecDepth 20000 in
theorem gX11_slack_X9_isAnswer : GoodIn wsX11_slack (wsV RX11 251 RX9 yX9_isAnswer wsX9_isAnswer) := goodIn_app (goodIn_of _ (by decide +kernel)) ggX11_slack_X9_isAnswer
set_option maxRecDepth 20000 in
theorem ggX11_widest_X9_isInput : GoodIn wsX11_widest wsX9_isInput := goodIn_r _ [7, 8, 9, 10, 11, 12, 6, 13, 14, 184, 185, 186, 187, 188, 189, 190, 191, 192, 193, 194, 195, 196, 197, 198, 199, 200, 201, 202] (by decide +kernel) (by decide +kernel)
set_option maxRecDepth 20000 in
theorem gX11_widest_X9_isInput : GoodIn wsX11_widest (wsV RX11 257 RX9 yX9_isInput wsX9_isInput) := goodIn_app (goodIn_of _ (by decide +kernel)) ggX11_widest_X9_isInput
set_option maxRecDepth 20000 in
theorem ggX11_blame_X9_isAnswer : GoodIn wsX11_blame wsX9_isAnswer := goodIn_r _ [15, 16, 17, 18, 19, 20, 14, 21, 22, 142, 143, 144, 145, 146, 147, 148, 149, 150, 160, 161, 162, 163, 164, 165, 166, 167, 168, 169] (by decide +kernel) (by decide +kernel)
set_option maxRecDepth 20000 in
theorem gX11_blame_X9_isAnswer : GoodIn wsX11_blame (wsV RX11 251 RX9 yX9_isAnswer wsX9_isAnswer) := goodIn_app (goodIn_of _ (by decide +kernel)) ggX11_blame_X9_isAnswer
set_option maxRecDepth 20000 in
theorem ggX11_cheapest_X1_search : GoodIn wsX11_cheapest wsX1_search := goodIn_r _ [10, 11, 12, 13, 14, 15, 16, 17, 18, 19, 20, 21, 22, 23, 24, 25, 26, 27, 28, 29, 9, 30, 31, 32, 33, 34, 35, 36, 37, 38, 39, 40, 41, 42, 43, 44, 45, 46, 47, 48, 49, 50, 51, 52, 53, 54, 55, 56, 57, 58, 59, 60, 61, 62, 63, 64, 65, 66, 67, 68, 69, 70, 71, 72, 73, 74, 75, 76, 77, 78, 79, 80, 81, 82, 83, 84, 85, 86, 87, 88, 89, 90, 91, 92, 93, 94, 95, 96, 97, 98, 99, 100, 101, 102, 103, 104, 105, 106, 107, 108, 109, 110, 111, 112, 113, 114, 115, 116, 117, 118, 119, 120, 121, 122, 123, 124, 125, 126, 127, 128, 129, 130, 131, 132, 133, 134, 135, 136, 137, 138, 139, 140, 141, 142, 143, 144, 145, 146, 147, 148, 149, 150, 151, 152, 153, 154, 155, 156, 157, 158, 159, 160, 161, 195, 196, 197, 198, 199, 200, 201, 202, 203, 204, 205, 206, 207, 208, 209, 210, 211, 212, 213, 214, 215, 216, 217, 218, 219, 181, 182, 183, 184, 185, 186, 187, 188, 189, 190, 191, 192, 193, 194, 220, 221, 222, 223, 224, 225] (by decide +kernel) (by decide +kernel)
set_option maxRecDepth 20000 in
theorem gX11_cheapest_X1_search : GoodIn wsX11_cheapest (wsV RX11 273 RX1 yX1_search wsX1_search) := goodIn_app (goodIn_of _ (by decide +kernel)) ggX11_cheapest_X1_search
set_option maxRecDepth 20000 in
theorem ggX11_passing_X1_search : GoodIn wsX11_passing wsX1_search := goodIn_r _ [8, 9, 10, 11, 12, 13, 14, 15, 16, 17, 18, 19, 20, 21, 22, 23, 24, 25, 26, 27, 7, 28, 29, 30, 31, 32, 33, 34, 35, 36, 37, 38, 39, 40, 41, 42, 43, 44, 45, 46, 47, 48, 49, 50, 51, 52, 53, 54, 55, 56, 57, 58, 59, 60, 61, 62, 63, 64, 65, 66, 67, 68, 69, 70, 71, 72, 73, 74, 75, 76, 77, 78, 79, 80, 81, 82, 83, 84, 85, 86, 87, 88, 89, 90, 91, 92, 93, 94, 95, 96, 97, 98, 99, 100, 101, 102, 103, 104, 105, 106, 107, 108, 109, 110, 111, 112, 113, 114, 115, 116, 117, 118, 119, 120, 121, 122, 123, 124, 125, 126, 127, 128, 129, 130, 131, 132, 133, 134, 135, 136, 137, 138, 139, 140, 141, 142, 143, 144, 145, 146, 147, 148, 149, 150, 151, 152, 153, 154, 155, 156, 157, 158, 159, 190, 191, 192, 193, 194, 195, 196, 197, 198, 199, 200, 201, 202, 203, 204, 205, 206, 207, 208, 209, 210, 211, 212, 213, 214, 176, 177, 178, 179, 180, 181, 182, 183, 184, 185, 186, 187, 188, 189, 215, 216, 217, 218, 219, 220] (by decide +kernel) (by decide +kernel)
set_option maxRecDepth 20000 in
theorem gX11_passing_X1_search : GoodIn wsX11_passing (wsV RX11 273 RX1 yX1_search wsX1_search) := goodIn_app (goodIn_of _ (by decide +kernel)) ggX11_passing_X1_search
set_option maxRecDepth 20000 in
theorem ggX11_halves_X3_goByHalves : GoodIn wsX11_halves wsX3_goByHalves := goodIn_r _ [10, 11, 12, 13, 14, 15, 16, 17, 18, 19, 20, 21, 22, 23, 24, 25, 26, 27, 28, 29, 30, 31, 32, 33, 34, 35, 36, 37, 38, 39, 40, 41, 42, 43, 44, 45, 46, 47, 48, 49, 50, 51, 52, 53, 54, 55, 56, 57, 58, 59, 60, 61, 62, 63, 64, 65, 66, 67, 68, 69, 70, 71, 72, 73, 74, 75, 76, 77, 78, 79, 80, 81, 82, 83, 84, 85, 86, 87, 88, 89, 90, 91, 92, 93, 94, 95, 96, 97, 98, 99, 100, 101, 102, 103, 104, 105, 106, 107, 108, 109, 110, 111, 112, 113, 114, 115, 116, 117, 118, 119, 120, 121, 122, 123, 124, 125, 126, 127, 128, 129, 130, 131, 132, 133, 134, 135, 136, 137, 138, 139, 140, 141, 142, 9, 143, 144, 145, 146, 147, 148, 149, 150, 151, 152, 153, 154, 155, 156, 157, 158, 159, 160, 161, 162, 163, 164, 165, 184, 185, 186, 187, 188, 189, 190, 191, 192, 193, 194, 195, 196, 197, 198, 199, 200, 201, 202, 203, 204, 205, 206, 207, 208, 209, 210, 211, 212, 213, 214, 215, 216, 217, 218, 219, 220, 221, 222, 223, 224, 225, 226, 227, 228, 229, 230] (by decide +kernel) (by decide +kernel)
set_option maxRecDepth 20000 in
theorem gX11_halves_X3_goByHalves : GoodIn wsX11_halves (wsV RX11 290 RX3 yX3_goByHalves wsX3_goByHalves) := goodIn_app (goodIn_of _ (by decide +kernel)) ggX11_halves_X3_goByHalves
set_option maxRecDepth 20000 in
theorem ggX11_single_X9_hasChoice : GoodIn wsX11_single wsX9_hasChoice := goodIn_r _ [13, 14, 15, 16, 17, 174, 175, 176, 177, 178, 179, 180, 181, 182, 183, 184, 185, 186, 187, 188, 189, 190, 191, 192, 193, 194, 195, 196, 197, 198] (by decide +kernel) (by decide +kernel)
set_option maxRecDepth 20000 in
theorem gX11_single_X9_hasChoice : GoodIn wsX11_single (wsV RX11 220 RX9 yX9_hasChoice wsX9_hasChoice) := goodIn_app (goodIn_of _ (by decide +kernel)) ggX11_single_X9_hasChoice
set_option maxRecDepth 20000 in
theorem ggX11_take_X11_takeCheapest : GoodIn wsX11_take wsX11_takeCheapest := goodIn_r _ [9, 10, 2, 11, 4, 12, 13, 14, 15, 16, 17, 18, 19, 20, 21, 22, 23, 24, 25, 26, 27, 28, 29, 30, 31, 32, 33, 34, 35, 36, 37, 38, 39, 40, 41, 42, 43, 44, 45, 46, 47, 48, 49, 50, 51, 52, 53, 54, 55, 56, 57, 58, 59, 60, 61, 62, 63, 64, 65, 66, 67, 68, 69, 70, 71, 72, 73, 74, 75, 76, 77, 78, 79, 80, 81, 82, 83, 84, 85, 86, 87, 88, 89, 90, 91, 92, 93, 94, 95, 96, 97, 98, 99, 100, 101, 102, 103, 104, 105, 106, 107, 108, 109, 110, 111, 8, 112, 113, 114, 115, 116, 117, 118, 119, 120, 121, 122, 123, 124, 125, 126, 127, 128, 129, 130, 131, 132, 133, 134, 135, 136, 137, 138, 139, 140, 141, 142, 143, 144, 145, 146, 147, 148, 149, 150, 151, 152, 153, 154, 155, 156, 157, 158, 159, 160, 161, 162, 163, 164, 165, 166, 167, 253, 254, 255, 256, 257, 258, 259, 260, 261, 262, 263, 264, 265, 266, 267, 268, 285, 286, 287, 288, 289, 290, 291, 292, 293, 294, 295, 296, 297, 298, 299, 300, 301, 302, 303, 304, 305, 306, 307, 308, 309, 310, 311, 312, 313, 314, 315, 316, 317, 318, 319, 320, 321, 322, 323, 324, 325, 326, 327, 328, 329] (by decide +kernel) (by decide +kernel)
set_option maxRecDepth 20000 in
theorem gX11_take_X11_takeCheapest : GoodIn wsX11_take (wsV RX11 320 RX11 yX11_takeCheapest wsX11_takeCheapest) := goodIn_app (goodIn_of _ (by decide +kernel)) ggX11_take_X11_takeCheapest
set_option maxRecDepth 20000 in
theorem ggX11_take_X3_goByHalves : GoodIn wsX11_take wsX3_goByHalves := goodIn_r _ [172, 173, 174, 175, 176, 177, 178, 179, 180, 181, 182, 183, 25, 26, 27, 28, 29, 30, 31, 32, 184, 185, 186, 187, 95, 96, 188, 189, 190, 191, 192, 193, 194, 195, 65, 66, 67, 68, 69, 70, 71, 72, 73, 74, 75, 76, 77, 78, 79, 80, 81, 82, 83, 84, 85, 86, 87, 88, 89, 90, 91, 92, 93, 94, 97, 98, 99, 100, 101, 102, 103, 45, 104, 47, 105, 106, 107, 108, 109, 110, 111, 8, 112, 113, 114, 115, 116, 117, 118, 119, 120, 121, 122, 123, 124, 125, 126, 127, 128, 129, 130, 131, 132, 133, 134, 135, 136, 137, 138, 139, 140, 141, 142, 143, 196, 145, 146, 147, 148, 149, 150, 151, 152, 153, 154, 155, 156, 157, 158, 159, 197, 198, 199, 171, 200, 201, 202, 203, 204, 205, 206, 207, 208, 209, 210, 211, 212, 213, 214, 215, 216, 217, 218, 219, 220, 221, 222, 269, 270, 271, 272, 273, 274, 275, 276, 277, 278, 279, 280, 281, 282, 283, 284, 299, 300, 301, 302, 303, 304, 305, 306, 307, 308, 309, 310, 311, 312, 313, 314, 315, 316, 317, 318, 319, 320, 321, 322, 323, 324, 325, 326, 327, 328, 329] (by decide +kernel) (by decide +kernel)
set_option maxRecDepth 20000 in
theorem gX11_take_X3_goByHalves : GoodIn wsX11_take (wsV RX11 290 RX3 yX3_goByHalves wsX3_goByHalves) := goodIn_app (goodIn_of _ (by decide +kernel)) ggX11_take_X3_goByHalves
set_option maxRecDepth 20000 in
theorem ggX11_take_X11_takeSingle : GoodIn wsX11_take wsX11_takeSingle := goodIn_r _ [229, 2, 1, 4, 230, 231, 232, 233, 25, 26, 27, 28, 29, 30, 31, 32, 234, 235, 236, 171, 237, 238, 239, 240, 241, 242, 175, 208, 209, 182, 179, 180, 224, 8, 225, 196, 145, 146, 147, 148, 149, 150, 151, 152, 153, 154, 102, 103, 45, 104, 47, 105, 155, 87, 88, 89, 90, 156, 157, 158, 159, 95, 195, 65, 66, 67, 68, 69, 70, 71, 72, 73, 74, 75, 76, 77, 78, 79, 80, 81, 82, 83, 84, 85, 86, 91, 92, 93, 94, 96, 97, 98, 99, 100, 101, 106, 107, 108, 109, 110, 111, 112, 113, 114, 115, 116, 117, 118, 119, 120, 121, 122, 123, 124, 125, 126, 127, 128, 129, 130, 131, 132, 133, 134, 135, 136, 137, 138, 139, 140, 141, 142, 143, 243, 244, 245, 191, 246, 193, 194, 253, 254, 255, 256, 257, 258, 259, 260, 261, 262, 263, 264, 265, 266, 267, 268, 299, 300, 301, 302, 303, 304, 305, 306, 307, 269, 270, 271, 272, 273, 274, 275, 276, 277, 278, 279, 280, 281, 282, 283, 284, 308, 309, 310, 311, 312, 313, 314, 315, 316, 317, 318, 319, 320, 321, 322, 323, 324, 325, 326, 327, 328, 329] (by decide +kernel) (by decide +kernel)
set_option maxRecDepth 20000 in
theorem gX11_take_X11_takeSingle : GoodIn wsX11_take (wsV RX11 323 RX11 yX11_takeSingle wsX11_takeSingle) := goodIn_app (goodIn_of _ (by decide +kernel)) ggX11_take_X11_takeSingle
set_option maxRecDepth 20000 in
theorem ggX11_take_X11_refuse : GoodIn wsX11_take wsX11_refuse := goodIn_r _ [251, 252, 253, 254, 255, 256, 257, 258, 259, 260, 261, 262, 263, 264, 265, 266, 267, 268] (by decide +kernel) (by decide +kernel)
set_option maxRecDepth 20000 in
theorem gX11_take_X11_refuse : GoodIn wsX11_take (wsV RX11 92 RX11 yX11_refuse wsX11_refuse) := goodIn_app (goodIn_of _ (by decide +kernel)) ggX11_take_X11_refuse
set_option maxRecDepth 20000 in
theorem ggX11_front_X9_isAnswer : GoodIn wsX11_front wsX9_isAnswer := goodIn_r _ [12, 13, 14, 15, 16, 17, 11, 18, 19, 214, 215, 216, 217, 218, 219, 220, 221, 222, 223, 224, 225, 226, 227, 228, 229, 230, 231, 232] (by decide +kernel) (by decide +kernel)
set_option maxRecDepth 20000 in
theorem gX11_front_X9_isAnswer : GoodIn wsX11_front (wsV RX11 251 RX9 yX9_isAnswer wsX9_isAnswer) := goodIn_app (goodIn_of _ (by decide +kernel)) ggX11_front_X9_isAnswer
set_option maxRecDepth 20000 in
theorem ggX11_least_X9_isAnswer : GoodIn wsX11_least wsX9_isAnswer := goodIn_r _ [8, 9, 10, 11, 12, 13, 7, 14, 15, 187, 188, 189, 190, 191, 192, 193, 194, 195, 196, 197, 198, 199, 200, 201, 202, 203, 204, 205] (by decide +kernel) (by decide +kernel)
set_option maxRecDepth 20000 in
theorem gX11_least_X9_isAnswer : GoodIn wsX11_least (wsV RX11 251 RX9 yX9_isAnswer wsX9_isAnswer) := goodIn_app (goodIn_of _ (by decide +kernel)) ggX11_least_X9_isAnswer
set_option maxRecDepth 20000 in
theorem ggX11_check_X0_holds : GoodIn wsX11_check wsX0_holds := goodIn_r _ [9, 10, 11, 12, 13, 14, 15, 16, 17, 18, 8, 19, 20, 21, 22, 23, 24, 25, 26, 27, 28, 29, 30, 31, 32, 33, 34, 35, 36, 37, 38, 39, 40, 41, 42, 43, 44, 45, 46, 47, 48, 49, 50, 51, 52, 53, 54, 55, 56, 57, 58, 59, 60, 61, 62, 63, 64, 65, 66, 67, 68, 69, 70, 71, 72, 73, 74, 75, 76, 77, 78, 79, 80, 81, 82, 83, 84, 85, 86, 87, 88, 89, 90, 91, 92, 93, 94, 95, 96, 97, 98, 99, 100, 101, 102, 103, 104, 105, 106, 107, 108, 109, 110, 111, 112, 113, 114, 115, 116, 117, 118, 119, 120, 121, 122, 123, 124, 125, 126, 127, 128, 129, 130, 131, 132, 133, 134, 135, 136, 137, 138, 139, 140, 141, 142, 143, 144, 145, 146, 147, 148, 149, 150, 151, 152, 153, 154, 155, 156, 157, 158, 159, 160, 161, 162, 163, 164, 186, 187, 188, 189, 190, 191, 192, 193, 194, 195, 196, 197, 198, 199, 200, 201, 202, 203, 204, 205, 206, 207, 208, 209, 210, 211, 212, 213, 214, 215, 216, 217, 218, 219, 220, 221] (by decide +kernel) (by decide +kernel)
set_option maxRecDepth 20000 in
theorem gX11_check_X0_holds : GoodIn wsX11_check (wsV RX11 350 RX0 yX0_holds wsX0_holds) := goodIn_app (goodIn_of _ (by decide +kernel)) ggX11_check_X0_holds
set_option maxRecDepth 20000 in
theorem ggX11_check_X11_refuse : GoodIn wsX11_check wsX11_refuse := goodIn_r _ [168, 169, 170, 171, 172, 173, 174, 175, 176, 177, 178, 179, 180, 181, 182, 183, 184, 185] (by decide +kernel) (by decide +kernel)
set_option maxRecDepth 20000 in
theorem gX11_check_X11_refuse : GoodIn wsX11_check (wsV RX11 92 RX11 yX11_refuse wsX11_refuse) := goodIn_app (goodIn_of _ (by decide +kernel)) ggX11_check_X11_refuse
set_option maxRecDepth 20000 in
theorem ggX11_trials_X9_hasNumber : GoodIn wsX11_trials wsX9_hasNumber := goodIn_r _ [18, 19, 20, 165, 166, 167, 168, 169, 170, 171, 172, 173, 174, 175, 176, 177, 178, 179, 180, 181, 182, 183] (by decide +kernel) (by decide +kernel)
set_option maxRecDepth 20000 in
theorem gX11_trials_X9_hasNumber : GoodIn wsX11_trials (wsV RX11 157 RX9 yX9_hasNumber wsX9_hasNumber) := goodIn_app (goodIn_of _ (by decide +kernel)) ggX11_trials_X9_hasNumber
set_option maxRecDepth 20000 in
theorem ggX11_trials_X11_refuse : GoodIn wsX11_trials wsX11_refuse := goodIn_r _ [111, 112, 147, 148, 149, 150, 151, 152, 153, 154, 155, 156, 157, 158, 159, 160, 161, 162] (by decide +kernel) (by decide +kernel)
set_option maxRecDepth 20000 in
theorem gX11_trials_X11_refuse : GoodIn wsX11_trials (wsV RX11 92 RX11 yX11_refuse wsX11_refuse) := goodIn_app (goodIn_of _ (by decide +kernel)) ggX11_trials_X11_refuse
set_option maxRecDepth 20000 in
theorem ggX11_trial_X9_hasNumber : GoodIn wsX11_trial wsX9_hasNumber := goodIn_r _ [12, 13, 14, 160, 161, 162, 163, 164, 165, 166, 167, 168, 169, 170, 171, 172, 173, 174, 175, 176, 177, 178] (by decide +kernel) (by decide +kernel)
set_option maxRecDepth 20000 in
theorem gX11_trial_X9_hasNumber : GoodIn wsX11_trial (wsV RX11 157 RX9 yX9_hasNumber wsX9_hasNumber) := goodIn_app (goodIn_of _ (by decide +kernel)) ggX11_trial_X9_hasNumber
set_option maxRecDepth 20000 in
theorem ggX11_seed_X11_refuse : GoodIn wsX11_seed wsX11_refuse := goodIn_r _ [6, 7, 8, 9, 10, 11, 12, 13, 14, 15, 16, 17, 18, 19, 20, 21, 22, 23] (by decide +kernel) (by decide +kernel)
set_option maxRecDepth 20000 in
theorem gX11_seed_X11_refuse : GoodIn wsX11_seed (wsV RX11 92 RX11 yX11_refuse wsX11_refuse) := goodIn_app (goodIn_of _ (by decide +kernel)) ggX11_seed_X11_refuse
set_option maxRecDepth 20000 in
theorem ggX11_takeCheapest_X1_search : GoodIn wsX11_takeCheapest wsX1_search := goodIn_r _ [9, 10, 11, 12, 13, 14, 15, 16, 17, 18, 19, 20, 21, 22, 23, 24, 25, 26, 27, 28, 8, 29, 30, 31, 32, 33, 34, 35, 36, 37, 38, 39, 40, 41, 42, 43, 44, 45, 46, 47, 48, 49, 50, 51, 52, 53, 54, 55, 56, 57, 58, 59, 60, 61, 62, 63, 64, 65, 66, 67, 68, 69, 70, 71, 72, 73, 74, 75, 76, 77, 78, 79, 80, 81, 82, 83, 84, 85, 86, 87, 88, 89, 90, 91, 92, 93, 94, 95, 96, 97, 98, 99, 100, 101, 102, 103, 104, 105, 106, 107, 108, 109, 110, 111, 112, 113, 114, 115, 116, 117, 118, 119, 120, 121, 122, 123, 124, 125, 126, 127, 128, 129, 130, 131, 132, 133, 134, 135, 136, 137, 138, 139, 140, 141, 142, 143, 144, 145, 146, 147, 148, 149, 150, 151, 152, 153, 154, 155, 156, 157, 158, 159, 160, 192, 193, 194, 195, 196, 197, 198, 199, 200, 201, 202, 203, 204, 205, 206, 207, 208, 209, 210, 211, 212, 213, 214, 215, 216, 178, 179, 180, 181, 182, 183, 184, 185, 186, 187, 188, 189, 190, 191, 217, 218, 219, 220, 221, 222] (by decide +kernel) (by decide +kernel)
set_option maxRecDepth 20000 in
theorem gX11_takeCheapest_X1_search : GoodIn wsX11_takeCheapest (wsV RX11 273 RX1 yX1_search wsX1_search) := goodIn_app (goodIn_of _ (by decide +kernel)) ggX11_takeCheapest_X1_search
set_option maxRecDepth 20000 in
theorem ggX11_takeSingle_X9_hasChoice : GoodIn wsX11_takeSingle wsX9_hasChoice := goodIn_r _ [11, 12, 13, 14, 15, 156, 157, 158, 159, 160, 161, 162, 163, 164, 181, 182, 183, 184, 185, 186, 187, 188, 189, 190, 191, 192, 193, 194, 195, 196] (by decide +kernel) (by decide +kernel)
set_option maxRecDepth 20000 in
theorem gX11_takeSingle_X9_hasChoice : GoodIn wsX11_takeSingle (wsV RX11 220 RX9 yX9_hasChoice wsX9_hasChoice) := goodIn_app (goodIn_of _ (by decide +kernel)) ggX11_takeSingle_X9_hasChoice
set_option maxRecDepth 20000 in
theorem ggX12_feed_X12_lays : GoodIn wsX12_feed wsX12_lays := goodIn_r _ [11, 12, 1, 13, 14, 15, 16, 17, 18, 19, 20, 21, 22, 23, 24, 25, 26, 27, 28, 29, 30, 31, 32, 33, 34, 35, 36, 37, 38, 39, 40, 41, 42, 43, 44, 45, 46, 47, 48, 49, 50, 51, 52, 53, 54, 55, 56, 57, 58, 59, 60, 61, 62, 63, 64, 65, 66, 67, 68, 69, 70, 71, 72, 73, 74, 75, 76, 77, 78, 79] (by decide +kernel) (by decide +kernel)
set_option maxRecDepth 20000 in
theorem gX12_feed_X12_lays : GoodIn wsX12_feed (wsV RX12 220 RX12 yX12_lays wsX12_lays) := goodIn_app (goodIn_of _ (by decide +kernel)) ggX12_feed_X12_lays
set_option maxRecDepth 20000 in
theorem ggX12_end_X12_isRefused : GoodIn wsX12_end wsX12_isRefused := goodIn_r _ [6, 7, 8, 9, 10, 11, 12, 13, 14, 15, 16, 17, 18, 19, 20, 21, 22, 23, 24, 25, 26, 27, 28, 29, 30, 31, 32, 33, 34, 35, 36, 37, 38, 39, 40, 41, 42, 43, 44, 45, 46, 47, 48, 49, 50, 51, 52, 53, 54, 55, 56, 57, 58, 59, 60, 61, 62, 63, 64, 65, 66, 67, 68, 69, 70, 71, 72, 73, 74] (by decide +kernel) (by decide +kernel)
set_option maxRecDepth 20000 in
theorem gX12_end_X12_isRefused : GoodIn wsX12_end (wsV RX12 224 RX12 yX12_isRefused wsX12_isRefused) := goodIn_app (goodIn_of _ (by decide +kernel)) ggX12_end_X12_isRefused
set_option maxRecDepth 20000 in
theorem ggX12_here_X12_byteAt : GoodIn wsX12_here wsX12_byteAt := goodIn_r _ [6, 7, 8, 9, 10, 11, 12, 13, 14, 15, 16, 17, 18, 19, 20, 21, 22, 23, 24, 25, 26, 27, 28, 29, 30, 31, 32, 33, 34, 35, 36, 37, 38, 39, 40, 41, 42, 43, 44, 45, 46, 47, 48, 49, 50, 51, 52, 53, 54, 55, 56, 57, 58, 59, 60, 61, 62, 63, 64, 65, 66, 67, 68, 69, 70, 71, 72, 73, 74, 75] (by decide +kernel) (by decide +kernel)
set_option maxRecDepth 20000 in
theorem gX12_here_X12_byteAt : GoodIn wsX12_here (wsV RX12 228 RX12 yX12_byteAt wsX12_byteAt) := goodIn_app (goodIn_of _ (by decide +kernel)) ggX12_here_X12_byteAt
set_option maxRecDepth 20000 in
theorem ggX12_task_X12_goesWell : GoodIn wsX12_task wsX12_goesWell := goodIn_r _ [18, 4, 184, 185, 186, 187, 188, 189, 190, 191, 192, 193, 194, 195, 196, 197, 198, 199, 200, 201, 202, 203, 204, 205, 206, 207, 208, 209, 210, 211, 212, 213, 214, 215, 216, 217, 218, 219, 220, 221, 222, 223, 224, 225, 226, 227, 228, 229, 230, 231, 232, 233, 234, 235, 236, 237, 238, 239, 240, 241, 242, 243, 244, 245, 246, 247, 248, 249, 250] (by decide +kernel) (by decide +kernel)
set_option maxRecDepth 20000 in
theorem gX12_task_X12_goesWell : GoodIn wsX12_task (wsV RX12 231 RX12 yX12_goesWell wsX12_goesWell) := goodIn_app (goodIn_of _ (by decide +kernel)) ggX12_task_X12_goesWell
set_option maxRecDepth 20000 in
theorem ggX12_task_X12_here : GoodIn wsX12_task wsX12_here := goodIn_r _ [22, 3, 23, 24, 25, 17, 26, 2, 27, 184, 185, 186, 187, 188, 189, 190, 191, 192, 193, 194, 195, 196, 197, 198, 199, 200, 201, 202, 203, 204, 205, 206, 207, 208, 209, 210, 211, 212, 213, 214, 215, 216, 217, 218, 219, 220, 221, 222, 223, 224, 225, 226, 227, 228, 229, 230, 231, 232, 233, 234, 235, 236, 237, 238, 239, 240, 241, 242, 243, 244, 245, 246, 247, 248, 249, 250] (by decide +kernel) (by decide +kernel)
set_option maxRecDepth 20000 in
theorem gX12_task_X12_here : GoodIn wsX12_task (wsV RX12 235 RX12 yX12_here wsX12_here) := goodIn_app (goodIn_of _ (by decide +kernel)) ggX12_task_X12_here
set_option maxRecDepth 20000 in
theorem ggX12_task_X12_faults : GoodIn wsX12_task wsX12_faults := goodIn_r _ [49, 4, 5, 184, 185, 186, 187, 188, 189, 190, 191, 192, 193, 194, 195, 196, 197, 198, 199, 200, 201, 202, 203, 204, 205, 206, 207, 208, 209, 210, 211, 212, 213, 214, 215, 216, 217, 218, 219, 220, 221, 222, 223, 224, 225, 226, 227, 228, 229, 230, 231, 232, 233, 234, 235, 236, 237, 238, 239, 240, 241, 242, 243, 244, 245, 246, 247, 248, 249, 250] (by decide +kernel) (by decide +kernel)
set_option maxRecDepth 20000 in
theorem gX12_task_X12_faults : GoodIn wsX12_task (wsV RX12 239 RX12 yX12_faults wsX12_faults) := goodIn_app (goodIn_of _ (by decide +kernel)) ggX12_task_X12_faults
set_option maxRecDepth 20000 in
theorem ggX12_task_X12_refuses : GoodIn wsX12_task wsX12_refuses := goodIn_r _ [172, 173, 184, 185, 186, 187, 188, 189, 190, 191, 192, 193, 194, 195, 196, 197, 198, 199, 200, 201, 202, 203, 204, 205, 206, 207, 208, 209, 210, 211, 212, 213, 214, 215, 216, 217, 218, 219, 220, 221, 222, 223, 224, 225, 226, 227, 228, 229, 230, 231, 232, 233, 234, 235, 236, 237, 238, 239, 240, 241, 242, 243, 244, 245, 246, 247, 248, 249, 250] (by decide +kernel) (by decide +kernel)
set_option maxRecDepth 20000 in
theorem gX12_task_X12_refuses : GoodIn wsX12_task (wsV RX12 216 RX12 yX12_refuses wsX12_refuses) := goodIn_app (goodIn_of _ (by decide +kernel)) ggX12_task_X12_refuses
set_option maxRecDepth 20000 in
theorem ggX12_isNumber_X12_isIn : GoodIn wsX12_isNumber wsX12_isIn := goodIn_r _ [5] (by decide +kernel) (by decide +kernel)
set_option maxRecDepth 20000 in
theorem gX12_isNumber_X12_isIn : GoodIn wsX12_isNumber (va_wsS RX12 263 yX12_isIn wsX12_isIn) := goodIn_app (goodIn_of _ (by decide +kernel)) ggX12_isNumber_X12_isIn
set_option maxRecDepth 20000 in
theorem ggX12_isFormat_X12_isIn : GoodIn wsX12_isFormat wsX12_isIn := goodIn_r _ [5] (by decide +kernel) (by decide +kernel)
set_option maxRecDepth 20000 in
theorem gX12_isFormat_X12_isIn : GoodIn wsX12_isFormat (va_wsS RX12 263 yX12_isIn wsX12_isIn) := goodIn_app (goodIn_of _ (by decide +kernel)) ggX12_isFormat_X12_isIn
set_option maxRecDepth 20000 in
theorem ggX12_has_X12_laysFree : GoodIn wsX12_has wsX12_laysFree := goodIn_r _ [10, 3, 1, 11, 12, 13, 14, 15, 9, 16, 17, 32, 33, 34, 35, 36, 37, 38, 39, 40, 41, 42, 43, 44, 45, 46, 47, 48, 49, 50, 51, 52, 53, 54, 55, 56, 57, 58, 59, 60, 61, 62, 63, 64, 65, 66, 67, 68, 69, 70, 71, 72, 73, 74, 75, 76, 77, 78, 79, 80, 81, 82, 83, 84, 85, 86, 87, 88, 89, 90, 91, 92, 93, 94, 95, 96, 97, 98] (by decide +kernel) (by decide +kernel)
set_option maxRecDepth 20000 in
theorem gX12_has_X12_laysFree : GoodIn wsX12_has (wsV RX12 358 RX12 yX12_laysFree wsX12_laysFree) := goodIn_app (goodIn_of _ (by decide +kernel)) ggX12_has_X12_laysFree
set_option maxRecDepth 20000 in
theorem ggX12_has_X12_inputs : GoodIn wsX12_has wsX12_inputs := goodIn_r _ [21, 1, 22, 32, 33, 34, 35, 36, 37, 38, 39, 40, 41, 42, 43, 44, 45, 46, 47, 48, 49, 50, 51, 52, 53, 54, 55, 56, 57, 58, 59, 60, 61, 62, 63, 64, 65, 66, 67, 68, 69, 70, 71, 72, 73, 74, 75, 76, 77, 78, 79, 80, 81, 82, 83, 84, 85, 86, 87, 88, 89, 90, 91, 92, 93, 94, 95, 96, 97, 98] (by decide +kernel) (by decide +kernel)
set_option maxRecDepth 20000 in
theorem gX12_has_X12_inputs : GoodIn wsX12_has (wsV RX12 361 RX12 yX12_inputs wsX12_inputs) := goodIn_app (goodIn_of _ (by decide +kernel)) ggX12_has_X12_inputs
set_option maxRecDepth 20000 in
theorem ggX12_has_X12_answers : GoodIn wsX12_has wsX12_answers := goodIn_r _ [26, 1, 27, 32, 33, 34, 35, 36, 37, 38, 39, 40, 41, 42, 43, 44, 45, 46, 47, 48, 49, 50, 51, 52, 53, 54, 55, 56, 57, 58, 59, 60, 61, 62, 63, 64, 65, 66, 67, 68, 69, 70, 71, 72, 73, 74, 75, 76, 77, 78, 79, 80, 81, 82, 83, 84, 85, 86, 87, 88, 89, 90, 91, 92, 93, 94, 95, 96, 97, 98] (by decide +kernel) (by decide +kernel)
set_option maxRecDepth 20000 in
theorem gX12_has_X12_answers : GoodIn wsX12_has (wsV RX12 364 RX12 yX12_answers wsX12_answers) := goodIn_app (goodIn_of _ (by decide +kernel)) ggX12_has_X12_answers
set_option maxRecDepth 20000 in
theorem ggX12_has_X12_groups : GoodIn wsX12_has wsX12_groups := goodIn_r _ [31, 1, 11, 32, 33, 34, 35, 36, 37, 38, 39, 40, 41, 42, 43, 44, 45, 46, 47, 48, 49, 50, 51, 52, 53, 54, 55, 56, 57, 58, 59, 60, 61, 62, 63, 64, 65, 66, 67, 68, 69, 70, 71, 72, 73, 74, 75, 76, 77, 78, 79, 80, 81, 82, 83, 84, 85, 86, 87, 88, 89, 90, 91, 92, 93, 94, 95, 96, 97, 98] (by decide +kernel) (by decide +kernel)
set_option maxRecDepth 20000 in
theorem gX12_has_X12_groups : GoodIn wsX12_has (wsV RX12 367 RX12 yX12_groups wsX12_groups) := goodIn_app (goodIn_of _ (by decide +kernel)) ggX12_has_X12_groups
set_option maxRecDepth 20000 in
theorem ggX12_letter_X12_isFormat : GoodIn wsX12_letter wsX12_isFormat := goodIn_r _ [8, 9, 10, 11, 7, 12, 18, 19, 20, 21, 22, 23, 24, 25, 26, 27, 28, 29, 30, 31, 32, 33, 34, 35, 36, 37, 38, 39, 40, 41, 42, 43, 44, 45, 46, 47, 48, 49, 50, 51, 52, 53, 54, 55, 56, 57, 58, 59, 60, 61, 62, 63, 64, 65, 66, 67, 68, 69, 70, 71, 72, 73, 74, 75, 76, 77, 78, 79, 80, 81, 82, 83, 84] (by decide +kernel) (by decide +kernel)
set_option maxRecDepth 20000 in
theorem gX12_letter_X12_isFormat : GoodIn wsX12_letter (wsV RX12 370 RX12 yX12_isFormat wsX12_isFormat) := goodIn_app (goodIn_of _ (by decide +kernel)) ggX12_letter_X12_isFormat
set_option maxRecDepth 20000 in
theorem ggX12_letter_X12_isNumber : GoodIn wsX12_letter wsX12_isNumber := goodIn_r _ [16, 17, 10, 11, 7, 12, 18, 19, 20, 21, 22, 23, 24, 25, 26, 27, 28, 29, 30, 31, 32, 33, 34, 35, 36, 37, 38, 39, 40, 41, 42, 43, 44, 45, 46, 47, 48, 49, 50, 51, 52, 53, 54, 55, 56, 57, 58, 59, 60, 61, 62, 63, 64, 65, 66, 67, 68, 69, 70, 71, 72, 73, 74, 75, 76, 77, 78, 79, 80, 81, 82, 83, 84] (by decide +kernel) (by decide +kernel)
set_option maxRecDepth 20000 in
theorem gX12_letter_X12_isNumber : GoodIn wsX12_letter (wsV RX12 373 RX12 yX12_isNumber wsX12_isNumber) := goodIn_app (goodIn_of _ (by decide +kernel)) ggX12_letter_X12_isNumber
set_option maxRecDepth 20000 in
theorem ggX12_format_X12_isFormat : GoodIn wsX12_format wsX12_isFormat := goodIn_r _ [8, 9, 10, 11, 7, 12, 13, 14, 15, 16, 17, 18, 19, 20, 21, 22, 23, 24, 25, 26, 27, 28, 29, 30, 31, 32, 33, 34, 35, 36, 37, 38, 39, 40, 41, 42, 43, 44, 45, 46, 47, 48, 49, 50, 51, 52, 53, 54, 55, 56, 57, 58, 59, 60, 61, 62, 63, 64, 65, 66, 67, 68, 69, 70, 71, 72, 73, 74, 75, 76, 77, 78, 79] (by decide +kernel) (by decide +kernel)
set_option maxRecDepth 20000 in
theorem gX12_format_X12_isFormat : GoodIn wsX12_format (wsV RX12 370 RX12 yX12_isFormat wsX12_isFormat) := goodIn_app (goodIn_of _ (by decide +kernel)) ggX12_format_X12_isFormat
set_option maxRecDepth 20000 in
theorem ggX12_number__X12_isNumber : GoodIn wsX12_number_ wsX12_isNumber := goodIn_r _ [10, 11, 12, 13, 9, 14, 20, 21, 22, 23, 24, 25, 26, 27, 28, 29, 30, 31, 32, 33, 34, 35, 36, 37, 38, 39, 40, 41, 42, 43, 44, 45, 46, 47, 48, 49, 50, 51, 52, 53, 54, 55, 56, 57, 58, 59, 60, 61, 62, 63, 64, 65, 66, 67, 68, 69, 70, 71, 72, 73, 74, 75, 76, 77, 78, 79, 80, 81, 82, 83, 84, 85, 86] (by decide +kernel) (by decide +kernel)
set_option maxRecDepth 20000 in
theorem gX12_number__X12_isNumber : GoodIn wsX12_number_ (wsV RX12 373 RX12 yX12_isNumber wsX12_isNumber) := goodIn_app (goodIn_of _ (by decide +kernel)) ggX12_number__X12_isNumber
set_option maxRecDepth 20000 in
theorem ggX12_told_X12_isNumber : GoodIn wsX12_told wsX12_isNumber := goodIn_r _ [11, 12, 13, 14, 10, 15, 16, 17, 18, 19, 20, 21, 22, 23, 24, 25, 26, 27, 28, 29, 30, 31, 32, 33, 34, 35, 36, 37, 38, 39, 40, 41, 42, 43, 44, 45, 46, 47, 48, 49, 50, 51, 52, 53, 54, 55, 56, 57, 58, 59, 60, 61, 62, 63, 64, 65, 66, 67, 68, 69, 70, 71, 72, 73, 74, 75, 76, 77, 78, 79, 80, 81, 82] (by decide +kernel) (by decide +kernel)
set_option maxRecDepth 20000 in
theorem gX12_told_X12_isNumber : GoodIn wsX12_told (wsV RX12 373 RX12 yX12_isNumber wsX12_isNumber) := goodIn_app (goodIn_of _ (by decide +kernel)) ggX12_told_X12_isNumber
set_option maxRecDepth 20000 in
theorem ggX12_range_X12_isNumber : GoodIn wsX12_range wsX12_isNumber := goodIn_r _ [13, 14, 15, 16, 12, 17, 63, 64, 65, 66, 67, 68, 69, 70, 71, 72, 73, 74, 75, 76, 77, 78, 79, 80, 81, 82, 83, 84, 85, 86, 87, 88, 89, 90, 91, 92, 93, 94, 95, 96, 97, 98, 99, 100, 101, 102, 103, 104, 105, 106, 107, 108, 109, 110, 111, 112, 113, 114, 115, 116, 117, 118, 119, 120, 121, 122, 123, 124, 125, 126, 127, 128, 129] (by decide +kernel) (by decide +kernel)
set_option maxRecDepth 20000 in
theorem gX12_range_X12_isNumber : GoodIn wsX12_range (wsV RX12 373 RX12 yX12_isNumber wsX12_isNumber) := goodIn_app (goodIn_of _ (by decide +kernel)) ggX12_range_X12_isNumber
set_option maxRecDepth 20000 in
theorem ggX12_uses_X12_isNumber : GoodIn wsX12_uses wsX12_isNumber := goodIn_r _ [8, 1, 9, 10, 7, 11, 12, 13, 14, 15, 16, 17, 18, 19, 20, 21, 22, 23, 24, 25, 26, 27, 28, 29, 30, 31, 32, 33, 34, 35, 36, 37, 38, 39, 40, 41, 42, 43, 44, 45, 46, 47, 48, 49, 50, 51, 52, 53, 54, 55, 56, 57, 58, 59, 60, 61, 62, 63, 64, 65, 66, 67, 68, 69, 70, 71, 72, 73, 74, 75, 76, 77, 78] (by decide +kernel) (by decide +kernel)
set_option maxRecDepth 20000 in
theorem gX12_uses_X12_isNumber : GoodIn wsX12_uses (wsV RX12 373 RX12 yX12_isNumber wsX12_isNumber) := goodIn_app (goodIn_of _ (by decide +kernel)) ggX12_uses_X12_isNumber
set_option maxRecDepth 20000 in
theorem ggX12_depth_X12_isNumber : GoodIn wsX12_depth wsX12_isNumber := goodIn_r _ [9, 10, 11, 12, 8, 13, 18, 19, 20, 21, 22, 23, 24, 25, 26, 27, 28, 29, 30, 31, 32, 33, 34, 35, 36, 37, 38, 39, 40, 41, 42, 43, 44, 45, 46, 47, 48, 49, 50, 51, 52, 53, 54, 55, 56, 57, 58, 59, 60, 61, 62, 63, 64, 65, 66, 67, 68, 69, 70, 71, 72, 73, 74, 75, 76, 77, 78, 79, 80, 81, 82, 83, 84] (by decide +kernel) (by decide +kernel)
set_option maxRecDepth 20000 in
theorem gX12_depth_X12_isNumber : GoodIn wsX12_depth (wsV RX12 373 RX12 yX12_isNumber wsX12_isNumber) := goodIn_app (goodIn_of _ (by decide +kernel)) ggX12_depth_X12_isNumber
set_option maxRecDepth 20000 in
theorem ggX12_choose_X12_refuses : GoodIn wsX12_choose wsX12_refuses := goodIn_r _ [26, 27, 28, 29, 30, 31, 32, 33, 34, 35, 36, 37, 38, 39, 40, 41, 42, 43, 44, 45, 46, 47, 48, 49, 50, 51, 52, 53, 54, 55, 56, 57, 58, 59, 60, 61, 62, 63, 64, 65, 66, 67, 68, 69, 70, 71, 72, 73, 74, 75, 76, 77, 78, 79, 80, 81, 82, 83, 84, 85, 86, 87, 88, 89, 90, 91, 92, 93, 94] (by decide +kernel) (by decide +kernel)
set_option maxRecDepth 20000 in
theorem gX12_choose_X12_refuses : GoodIn wsX12_choose (wsV RX12 216 RX12 yX12_refuses wsX12_refuses) := goodIn_app (goodIn_of _ (by decide +kernel)) ggX12_choose_X12_refuses
set_option maxRecDepth 20000 in
theorem ggX12_cost_X12_isThere : GoodIn wsX12_cost wsX12_isThere := goodIn_r _ [5, 6, 7, 30, 31, 32, 33, 34, 35, 36, 37, 38, 39, 40, 41, 42, 43, 44, 45, 46, 47, 48, 49, 50, 51, 52, 53, 54, 55, 56, 57, 58, 59, 60, 61, 62, 63, 64, 65, 66, 67, 68, 69, 70, 71, 72, 73, 74, 75, 76, 77, 78, 79, 80, 81, 82, 83, 84, 85, 86, 87, 88, 89, 90, 91, 92, 93, 94, 95, 96] (by decide +kernel) (by decide +kernel)
set_option maxRecDepth 20000 in
theorem gX12_cost_X12_isThere : GoodIn wsX12_cost (wsV RX12 446 RX12 yX12_isThere wsX12_isThere) := goodIn_app (goodIn_of _ (by decide +kernel)) ggX12_cost_X12_isThere
set_option maxRecDepth 20000 in
theorem ggX12_casts_X12_isThere : GoodIn wsX12_casts wsX12_isThere := goodIn_r _ [5, 6, 7, 24, 25, 26, 27, 28, 29, 30, 31, 32, 33, 34, 35, 36, 37, 38, 39, 40, 41, 42, 43, 44, 45, 46, 47, 48, 49, 50, 51, 52, 53, 54, 55, 56, 57, 58, 59, 60, 61, 62, 63, 64, 65, 66, 67, 68, 69, 70, 71, 72, 73, 74, 75, 76, 77, 78, 79, 80, 81, 82, 83, 84, 85, 86, 87, 88, 89, 90] (by decide +kernel) (by decide +kernel)
set_option maxRecDepth 20000 in
theorem gX12_casts_X12_isThere : GoodIn wsX12_casts (wsV RX12 446 RX12 yX12_isThere wsX12_isThere) := goodIn_app (goodIn_of _ (by decide +kernel)) ggX12_casts_X12_isThere
set_option maxRecDepth 20000 in
theorem ggX12_fails_X12_isThere : GoodIn wsX12_fails wsX12_isThere := goodIn_r _ [6, 7, 8, 82, 83, 84, 85, 86, 87, 88, 89, 90, 91, 92, 93, 94, 95, 96, 97, 98, 99, 100, 101, 102, 103, 104, 105, 106, 107, 108, 109, 110, 111, 112, 113, 114, 115, 116, 117, 118, 119, 120, 121, 122, 123, 124, 125, 126, 127, 128, 129, 130, 131, 132, 133, 134, 135, 136, 137, 138, 139, 140, 141, 142, 143, 144, 145, 146, 147, 148] (by decide +kernel) (by decide +kernel)
set_option maxRecDepth 20000 in
theorem gX12_fails_X12_isThere : GoodIn wsX12_fails (wsV RX12 446 RX12 yX12_isThere wsX12_isThere) := goodIn_app (goodIn_of _ (by decide +kernel)) ggX12_fails_X12_isThere
set_option maxRecDepth 20000 in
theorem ggX12_why_X12_isThere : GoodIn wsX12_why wsX12_isThere := goodIn_r _ [6, 7, 8, 82, 83, 84, 85, 86, 87, 88, 89, 90, 91, 92, 93, 94, 95, 96, 97, 98, 99, 100, 101, 102, 103, 104, 105, 106, 107, 108, 109, 110, 111, 112, 113, 114, 115, 116, 117, 118, 119, 120, 121, 122, 123, 124, 125, 126, 127, 128, 129, 130, 131, 132, 133, 134, 135, 136, 137, 138, 139, 140, 141, 142, 143, 144, 145, 146, 147, 148] (by decide +kernel) (by decide +kernel)
set_option maxRecDepth 20000 in
theorem gX12_why_X12_isThere : GoodIn wsX12_why (wsV RX12 446 RX12 yX12_isThere wsX12_isThere) := goodIn_app (goodIn_of _ (by decide +kernel)) ggX12_why_X12_isThere
set_option maxRecDepth 20000 in
theorem ggX12_error_X12_isThere : GoodIn wsX12_error wsX12_isThere := goodIn_r _ [8, 9, 10, 90, 91, 92, 93, 94, 95, 96, 97, 98, 99, 100, 101, 102, 103, 104, 105, 106, 107, 108, 109, 110, 111, 112, 113, 114, 115, 116, 117, 118, 119, 120, 121, 122, 123, 124, 125, 126, 127, 128, 129, 130, 131, 132, 133, 134, 135, 136, 137, 138, 139, 140, 141, 142, 143, 144, 145, 146, 147, 148, 149, 150, 151, 152, 153, 154, 155, 156] (by decide +kernel) (by decide +kernel)
set_option maxRecDepth 20000 in
theorem gX12_error_X12_isThere : GoodIn wsX12_error (wsV RX12 446 RX12 yX12_isThere wsX12_isThere) := goodIn_app (goodIn_of _ (by decide +kernel)) ggX12_error_X12_isThere
set_option maxRecDepth 20000 in
theorem ggX12_isAnswer_X12_isNumber : GoodIn wsX12_isAnswer wsX12_isNumber := goodIn_r _ [6, 7, 8, 9, 5, 10, 11, 12, 13, 14, 15, 16, 17, 18, 19, 20, 21, 22, 23, 24, 25, 26, 27, 28, 29, 30, 31, 32, 33, 34, 35, 36, 37, 38, 39, 40, 41, 42, 43, 44, 45, 46, 47, 48, 49, 50, 51, 52, 53, 54, 55, 56, 57, 58, 59, 60, 61, 62, 63, 64, 65, 66, 67, 68, 69, 70, 71, 72, 73, 74, 75, 76, 77] (by decide +kernel) (by decide +kernel)
set_option maxRecDepth 20000 in
theorem gX12_isAnswer_X12_isNumber : GoodIn wsX12_isAnswer (wsV RX12 373 RX12 yX12_isNumber wsX12_isNumber) := goodIn_app (goodIn_of _ (by decide +kernel)) ggX12_isAnswer_X12_isNumber
set_option maxRecDepth 20000 in
theorem ggX12_slack_X12_isAnswer : GoodIn wsX12_slack wsX12_isAnswer := goodIn_r _ [8, 1, 9, 10, 11, 7, 12, 13, 14, 15, 16, 90, 91, 92, 93, 94, 95, 96, 97, 98, 99, 100, 101, 102, 103, 104, 105, 106, 107, 108, 109, 110, 111, 112, 113, 114, 115, 116, 117, 118, 119, 120, 121, 122, 123, 124, 125, 126, 127, 128, 129, 130, 131, 132, 133, 134, 135, 136, 137, 138, 139, 140, 141, 142, 143, 144, 145, 146, 147, 148, 149, 150, 151, 152, 153, 154, 155, 156] (by decide +kernel) (by decide +kernel)
set_option maxRecDepth 20000 in
theorem gX12_slack_X12_isAnswer : GoodIn wsX12_slack (wsV RX12 455 RX12 yX12_isAnswer wsX12_isAnswer) := goodIn_app (goodIn_of _ (by decide +kernel)) ggX12_slack_X12_isAnswer
set_option maxRecDepth 20000 in
theorem ggX12_widest_X12_isNumber : GoodIn wsX12_widest wsX12_isNumber := goodIn_r _ [9, 10, 11, 12, 8, 13, 86, 87, 88, 89, 90, 91, 92, 93, 94, 95, 96, 97, 98, 99, 100, 101, 102, 103, 104, 105, 106, 107, 108, 109, 110, 111, 112, 113, 114, 115, 116, 117, 118, 119, 120, 121, 122, 123, 124, 125, 126, 127, 128, 129, 130, 131, 132, 133, 134, 135, 136, 137, 138, 139, 140, 141, 142, 143, 144, 145, 146, 147, 148, 149, 150, 151, 152] (by decide +kernel) (by decide +kernel)
set_option maxRecDepth 20000 in
theorem gX12_widest_X12_isNumber : GoodIn wsX12_widest (wsV RX12 373 RX12 yX12_isNumber wsX12_isNumber) := goodIn_app (goodIn_of _ (by decide +kernel)) ggX12_widest_X12_isNumber
set_option maxRecDepth 20000 in
theorem ggX12_blame_X12_isAnswer : GoodIn wsX12_blame wsX12_isAnswer := goodIn_r _ [8, 9, 10, 11, 12, 7, 13, 14, 15, 16, 17, 105, 106, 107, 108, 109, 110, 111, 112, 113, 114, 115, 116, 117, 118, 119, 120, 121, 122, 123, 124, 125, 126, 127, 128, 129, 130, 131, 132, 133, 134, 135, 136, 137, 138, 139, 140, 141, 142, 143, 144, 145, 146, 147, 148, 149, 150, 151, 152, 153, 154, 155, 156, 157, 158, 159, 160, 161, 162, 163, 164, 165, 166, 167, 168, 169, 170, 171] (by decide +kernel) (by decide +kernel)
set_option maxRecDepth 20000 in
theorem gX12_blame_X12_isAnswer : GoodIn wsX12_blame (wsV RX12 455 RX12 yX12_isAnswer wsX12_isAnswer) := goodIn_app (goodIn_of _ (by decide +kernel)) ggX12_blame_X12_isAnswer
set_option maxRecDepth 20000 in
theorem ggX12_canSearch_X12_laysFree : GoodIn wsX12_canSearch wsX12_laysFree := goodIn_r _ [9, 4, 2, 10, 11, 12, 13, 14, 8, 15, 16, 17, 18, 19, 20, 21, 22, 23, 24, 25, 26, 27, 28, 29, 30, 31, 32, 33, 34, 35, 36, 37, 38, 39, 40, 41, 42, 43, 44, 45, 46, 47, 48, 49, 50, 51, 52, 53, 54, 55, 56, 57, 58, 59, 60, 61, 62, 63, 64, 65, 66, 67, 68, 69, 70, 71, 72, 73, 74, 75, 76, 77, 78, 79, 80, 81, 82, 83] (by decide +kernel) (by decide +kernel)
set_option maxRecDepth 20000 in
theorem gX12_canSearch_X12_laysFree : GoodIn wsX12_canSearch (wsV RX12 358 RX12 yX12_laysFree wsX12_laysFree) := goodIn_app (goodIn_of _ (by decide +kernel)) ggX12_canSearch_X12_laysFree
set_option maxRecDepth 20000 in
theorem ggX12_cheapest_X12_canSearch : GoodIn wsX12_cheapest wsX12_canSearch := goodIn_r _ [6, 7, 8, 9, 10, 11, 12, 13, 5, 14, 15, 16, 17, 18, 19, 20, 21, 128, 129, 130, 131, 132, 133, 134, 135, 136, 137, 138, 139, 140, 141, 142, 143, 144, 145, 146, 147, 148, 149, 150, 151, 152, 153, 154, 155, 156, 157, 158, 159, 160, 161, 162, 163, 164, 165, 166, 167, 168, 169, 170, 171, 172, 173, 174, 175, 176, 177, 178, 179, 180, 181, 182, 183, 184, 185, 186, 187, 188, 189, 190, 191, 192, 193, 194] (by decide +kernel) (by decide +kernel)
set_option maxRecDepth 20000 in
theorem gX12_cheapest_X12_canSearch : GoodIn wsX12_cheapest (wsV RX12 471 RX12 yX12_canSearch wsX12_canSearch) := goodIn_app (goodIn_of _ (by decide +kernel)) ggX12_cheapest_X12_canSearch
set_option maxRecDepth 20000 in
theorem ggX12_passing_X12_laysFree : GoodIn wsX12_passing wsX12_laysFree := goodIn_r _ [9, 2, 1, 10, 11, 12, 13, 14, 8, 15, 16, 99, 100, 101, 102, 103, 104, 105, 106, 107, 108, 109, 110, 111, 112, 113, 114, 115, 116, 117, 118, 119, 120, 121, 122, 123, 124, 125, 126, 127, 128, 129, 130, 131, 132, 133, 134, 135, 136, 137, 138, 139, 140, 141, 142, 143, 144, 145, 146, 147, 148, 149, 150, 151, 152, 153, 154, 155, 156, 157, 158, 159, 160, 161, 162, 163, 164, 165] (by decide +kernel) (by decide +kernel)
set_option maxRecDepth 20000 in
theorem gX12_passing_X12_laysFree : GoodIn wsX12_passing (wsV RX12 358 RX12 yX12_laysFree wsX12_laysFree) := goodIn_app (goodIn_of _ (by decide +kernel)) ggX12_passing_X12_laysFree
set_option maxRecDepth 20000 in
theorem ggX12_halve_X12_laysFree : GoodIn wsX12_halve wsX12_laysFree := goodIn_r _ [11, 2, 12, 13, 3, 14, 15, 16, 10, 17, 18, 132, 133, 134, 135, 136, 137, 138, 139, 140, 141, 142, 143, 144, 145, 146, 147, 148, 149, 150, 151, 152, 153, 154, 155, 156, 157, 158, 159, 160, 161, 162, 163, 164, 165, 166, 167, 168, 169, 170, 171, 172, 173, 174, 175, 176, 177, 178, 179, 180, 181, 182, 183, 184, 185, 186, 187, 188, 189, 190, 191, 192, 193, 194, 195, 196, 197, 198] (by decide +kernel) (by decide +kernel)
set_option maxRecDepth 20000 in
theorem gX12_halve_X12_laysFree : GoodIn wsX12_halve (wsV RX12 358 RX12 yX12_laysFree wsX12_laysFree) := goodIn_app (goodIn_of _ (by decide +kernel)) ggX12_halve_X12_laysFree
set_option maxRecDepth 20000 in
theorem ggX12_halve_X12_isThere : GoodIn wsX12_halve wsX12_isThere := goodIn_r _ [22, 23, 12, 132, 133, 134, 135, 136, 137, 138, 139, 140, 141, 142, 143, 144, 145, 146, 147, 148, 149, 150, 151, 152, 153, 154, 155, 156, 157, 158, 159, 160, 161, 162, 163, 164, 165, 166, 167, 168, 169, 170, 171, 172, 173, 174, 175, 176, 177, 178, 179, 180, 181, 182, 183, 184, 185, 186, 187, 188, 189, 190, 191, 192, 193, 194, 195, 196, 197, 198] (by decide +kernel) (by decide +kernel)
set_option maxRecDepth 20000 in
theorem gX12_halve_X12_isThere : GoodIn wsX12_halve (wsV RX12 446 RX12 yX12_isThere wsX12_isThere) := goodIn_app (goodIn_of _ (by decide +kernel)) ggX12_halve_X12_isThere
set_option maxRecDepth 20000 in
theorem ggX12_halves_X12_isNumber : GoodIn wsX12_halves wsX12_isNumber := goodIn_r _ [8, 9, 10, 11, 7, 12, 143, 144, 145, 146, 147, 148, 149, 150, 151, 152, 153, 154, 155, 156, 157, 158, 159, 160, 161, 162, 163, 164, 165, 166, 167, 168, 169, 170, 171, 172, 173, 174, 175, 176, 177, 178, 179, 180, 181, 182, 183, 184, 185, 186, 187, 188, 189, 190, 191, 192, 193, 194, 195, 196, 197, 198, 199, 200, 201, 202, 203, 204, 205, 206, 207, 208, 209] (by decide +kernel) (by decide +kernel)
set_option maxRecDepth 20000 in
theorem gX12_halves_X12_isNumber : GoodIn wsX12_halves (wsV RX12 373 RX12 yX12_isNumber wsX12_isNumber) := goodIn_app (goodIn_of _ (by decide +kernel)) ggX12_halves_X12_isNumber
set_option maxRecDepth 20000 in
theorem ggX12_halves_X12_halve : GoodIn wsX12_halves wsX12_halve := goodIn_r _ [16, 17, 18, 19, 20, 2, 21, 22, 23, 24, 7, 25, 9, 26, 27, 28, 29, 30, 31, 32, 33, 34, 35, 36, 37, 38, 39, 40, 41, 42, 43, 44, 45, 46, 47, 48, 49, 50, 51, 52, 53, 54, 55, 56, 57, 58, 59, 60, 61, 62, 63, 64, 65, 66, 67, 68, 69, 70, 71, 72, 73, 74, 75, 76, 77, 78, 79, 80, 81, 82, 83, 84, 85, 86, 87, 88, 89, 90, 91, 92, 93, 94, 95, 96, 97, 98, 99, 100, 101, 102, 103, 104, 105, 106, 107, 108, 109, 110, 111, 112, 113, 114, 115, 116, 117, 3, 1, 118, 119, 120, 121, 122, 123, 124, 125, 126, 127, 128, 129, 130, 131, 132, 133, 134, 135, 136, 137, 138, 139, 140, 141, 142, 143, 144, 145, 146, 147, 148, 149, 150, 151, 152, 153, 154, 155, 156, 157, 158, 159, 160, 161, 162, 163, 164, 165, 166, 167, 168, 169, 170, 171, 172, 173, 174, 175, 176, 177, 178, 179, 180, 181, 182, 183, 184, 185, 186, 187, 188, 189, 190, 191, 192, 193, 194, 195, 196, 197, 198, 199, 200, 201, 202, 203, 204, 205, 206, 207, 208, 209] (by decide +kernel) (by decide +kernel)
set_option maxRecDepth 20000 in
theorem gX12_halves_X12_halve : GoodIn wsX12_halves (wsV RX12 487 RX12 yX12_halve wsX12_halve) := goodIn_app (goodIn_of _ (by decide +kernel)) ggX12_halves_X12_halve
set_option maxRecDepth 20000 in
theorem ggX12_single_X12_isThere : GoodIn wsX12_single wsX12_isThere := goodIn_r _ [10, 11, 12, 121, 122, 123, 124, 125, 126, 127, 128, 129, 130, 131, 132, 133, 134, 135, 136, 137, 138, 139, 140, 141, 142, 143, 144, 145, 146, 147, 148, 149, 150, 151, 152, 153, 154, 155, 156, 157, 158, 159, 160, 161, 162, 163, 164, 165, 166, 167, 168, 169, 170, 171, 172, 173, 174, 175, 176, 177, 178, 179, 180, 181, 182, 183, 184, 185, 186, 187] (by decide +kernel) (by decide +kernel)
set_option maxRecDepth 20000 in
theorem gX12_single_X12_isThere : GoodIn wsX12_single (wsV RX12 446 RX12 yX12_isThere wsX12_isThere) := goodIn_app (goodIn_of _ (by decide +kernel)) ggX12_single_X12_isThere
set_option maxRecDepth 20000 in
theorem ggX12_canTake_X12_canSearch : GoodIn wsX12_canTake wsX12_canSearch := goodIn_r _ [10, 11, 1, 12, 13, 14, 15, 16, 9, 17, 18, 19, 20, 21, 22, 23, 24, 160, 161, 162, 163, 164, 165, 166, 167, 168, 169, 170, 171, 172, 173, 174, 175, 176, 177, 178, 179, 180, 181, 182, 183, 184, 185, 186, 187, 188, 189, 190, 191, 192, 193, 194, 195, 196, 197, 198, 199, 200, 201, 202, 203, 204, 205, 206, 207, 208, 209, 210, 211, 212, 213, 214, 215, 216, 217, 218, 219, 220, 221, 222, 223, 224, 225, 226] (by decide +kernel) (by decide +kernel)
set_option maxRecDepth 20000 in
theorem gX12_canTake_X12_canSearch : GoodIn wsX12_canTake (wsV RX12 471 RX12 yX12_canSearch wsX12_canSearch) := goodIn_app (goodIn_of _ (by decide +kernel)) ggX12_canTake_X12_canSearch
set_option maxRecDepth 20000 in
theorem ggX12_canTake_X12_halve : GoodIn wsX12_canTake wsX12_halve := goodIn_r _ [127, 11, 13, 19, 128, 129, 33, 14, 15, 16, 9, 17, 1, 18, 20, 21, 22, 23, 24, 130, 131, 132, 133, 12, 134, 135, 136, 137, 112, 38, 39, 40, 41, 2, 42, 43, 44, 45, 46, 63, 64, 65, 66, 67, 68, 69, 70, 71, 72, 73, 74, 75, 76, 77, 78, 79, 80, 81, 82, 83, 84, 85, 58, 57, 86, 87, 88, 89, 90, 91, 92, 93, 94, 95, 96, 97, 98, 99, 100, 101, 102, 103, 104, 105, 106, 107, 108, 109, 110, 111, 113, 114, 115, 116, 117, 118, 119, 120, 121, 122, 123, 138, 139, 140, 141, 3, 142, 47, 48, 49, 50, 51, 52, 53, 54, 55, 56, 59, 60, 61, 62, 143, 144, 145, 146, 147, 148, 149, 150, 151, 152, 153, 160, 161, 162, 163, 164, 165, 166, 167, 168, 169, 170, 171, 172, 173, 174, 175, 176, 177, 178, 179, 180, 181, 182, 183, 184, 185, 186, 187, 188, 189, 190, 191, 192, 193, 194, 195, 196, 197, 198, 199, 200, 201, 202, 203, 204, 205, 206, 207, 208, 209, 210, 211, 212, 213, 214, 215, 216, 217, 218, 219, 220, 221, 222, 223, 224, 225, 226] (by decide +kernel) (by decide +kernel)
set_option maxRecDepth 20000 in
theorem gX12_canTake_X12_halve : GoodIn wsX12_canTake (wsV RX12 487 RX12 yX12_halve wsX12_halve) := goodIn_app (goodIn_of _ (by decide +kernel)) ggX12_canTake_X12_halve
set_option maxRecDepth 20000 in
theorem ggX12_canTake_X12_isThere : GoodIn wsX12_canTake wsX12_isThere := goodIn_r _ [133, 12, 1, 160, 161, 162, 163, 164, 165, 166, 167, 168, 169, 170, 171, 172, 173, 174, 175, 176, 177, 178, 179, 180, 181, 182, 183, 184, 185, 186, 187, 188, 189, 190, 191, 192, 193, 194, 195, 196, 197, 198, 199, 200, 201, 202, 203, 204, 205, 206, 207, 208, 209, 210, 211, 212, 213, 214, 215, 216, 217, 218, 219, 220, 221, 222, 223, 224, 225, 226] (by decide +kernel) (by decide +kernel)
set_option maxRecDepth 20000 in
theorem gX12_canTake_X12_isThere : GoodIn wsX12_canTake (wsV RX12 446 RX12 yX12_isThere wsX12_isThere) := goodIn_app (goodIn_of _ (by decide +kernel)) ggX12_canTake_X12_isThere
set_option maxRecDepth 20000 in
theorem ggX12_take_X12_canTake : GoodIn wsX12_take wsX12_canTake := goodIn_r _ [5, 6, 7, 8, 9, 10, 11, 12, 13, 4, 14, 15, 16, 17, 18, 19, 20, 21, 22, 23, 24, 25, 26, 27, 28, 29, 30, 31, 32, 33, 34, 35, 36, 37, 38, 39, 40, 41, 42, 43, 44, 45, 46, 47, 48, 49, 50, 51, 52, 53, 54, 55, 56, 57, 58, 59, 60, 61, 62, 63, 64, 65, 66, 67, 68, 69, 70, 71, 72, 73, 74, 75, 76, 77, 78, 79, 80, 81, 82, 83, 84, 85, 86, 87, 88, 89, 90, 91, 92, 93, 94, 95, 96, 97, 98, 99, 100, 101, 102, 103, 104, 105, 106, 107, 108, 109, 110, 111, 112, 113, 114, 115, 116, 117, 118, 119, 120, 121, 122, 123, 124, 125, 126, 127, 128, 129, 130, 131, 132, 133, 134, 135, 136, 137, 138, 139, 140, 141, 142, 143, 144, 145, 146, 147, 148, 149, 150, 151, 152, 153, 154, 155, 156, 157, 158, 159, 160, 161, 162, 163, 173, 174, 175, 176, 177, 178, 179, 180, 181, 182, 183, 184, 185, 186, 187, 188, 189, 190, 191, 192, 193, 194, 195, 196, 197, 198, 199, 200, 201, 202, 203, 204, 205, 206, 207, 208, 209, 210, 211, 212, 213, 214, 215, 216, 217, 218, 219, 220, 221, 222, 223, 224, 225, 226, 227, 228, 229, 230, 231, 232, 233, 234, 235, 236, 237, 238, 239] (by decide +kernel) (by decide +kernel)
set_option maxRecDepth 20000 in
theorem gX12_take_X12_canTake : GoodIn wsX12_take (wsV RX12 495 RX12 yX12_canTake wsX12_canTake) := goodIn_app (goodIn_of _ (by decide +kernel)) ggX12_take_X12_canTake
set_option maxRecDepth 20000 in
theorem ggX12_take_X12_refuses : GoodIn wsX12_take wsX12_refuses := goodIn_r _ [167, 168, 173, 174, 175, 176, 177, 178, 179, 180, 181, 182, 183, 184, 185, 186, 187, 188, 189, 190, 191, 192, 193, 194, 195, 196, 197, 198, 199, 200, 201, 202, 203, 204, 205, 206, 207, 208, 209, 210, 211, 212, 213, 214, 215, 216, 217, 218, 219, 220, 221, 222, 223, 224, 225, 226, 227, 228, 229, 230, 231, 232, 233, 234, 235, 236, 237, 238, 239] (by decide +kernel) (by decide +kernel)
set_option maxRecDepth 20000 in
theorem gX12_take_X12_refuses : GoodIn wsX12_take (wsV RX12 216 RX12 yX12_refuses wsX12_refuses) := goodIn_app (goodIn_of _ (by decide +kernel)) ggX12_take_X12_refuses
set_option maxRecDepth 20000 in
theorem ggX12_front_X12_isAnswer : GoodIn wsX12_front wsX12_isAnswer := goodIn_r _ [11, 12, 13, 14, 15, 10, 16, 17, 18, 19, 20, 141, 142, 143, 144, 145, 146, 147, 148, 149, 150, 151, 152, 153, 154, 155, 156, 157, 158, 159, 160, 161, 162, 163, 164, 165, 166, 167, 168, 169, 170, 171, 172, 173, 174, 175, 176, 177, 178, 179, 180, 181, 182, 183, 184, 185, 186, 187, 188, 189, 190, 191, 192, 193, 194, 195, 196, 197, 198, 199, 200, 201, 202, 203, 204, 205, 206, 207] (by decide +kernel) (by decide +kernel)
set_option maxRecDepth 20000 in
theorem gX12_front_X12_isAnswer : GoodIn wsX12_front (wsV RX12 455 RX12 yX12_isAnswer wsX12_isAnswer) := goodIn_app (goodIn_of _ (by decide +kernel)) ggX12_front_X12_isAnswer
set_option maxRecDepth 20000 in
theorem ggX12_least_X12_isAnswer : GoodIn wsX12_least wsX12_isAnswer := goodIn_r _ [7, 8, 9, 10, 11, 6, 12, 13, 14, 15, 16, 129, 130, 131, 132, 133, 134, 135, 136, 137, 138, 139, 140, 141, 142, 143, 144, 145, 146, 147, 148, 149, 150, 151, 152, 153, 154, 155, 156, 157, 158, 159, 160, 161, 162, 163, 164, 165, 166, 167, 168, 169, 170, 171, 172, 173, 174, 175, 176, 177, 178, 179, 180, 181, 182, 183, 184, 185, 186, 187, 188, 189, 190, 191, 192, 193, 194, 195] (by decide +kernel) (by decide +kernel)
set_option maxRecDepth 20000 in
theorem gX12_least_X12_isAnswer : GoodIn wsX12_least (wsV RX12 455 RX12 yX12_isAnswer wsX12_isAnswer) := goodIn_app (goodIn_of _ (by decide +kernel)) ggX12_least_X12_isAnswer
set_option maxRecDepth 20000 in
theorem ggX12_certificate_X12_handPasses : GoodIn wsX12_certificate wsX12_handPasses := goodIn_r _ [10, 11, 12, 1, 13, 14, 15, 9, 16, 17, 2, 18, 19, 20, 21, 22, 23, 5, 24, 25, 26, 27, 28, 29, 30, 31, 3, 32, 4, 33, 34, 35, 36, 37, 38, 39, 40, 41, 42, 43, 44, 45, 46, 47, 48, 49, 50, 51, 52, 53, 54, 55, 56, 57, 58, 59, 60, 61, 62, 63, 64, 65, 66, 67, 68, 69, 70, 71, 72, 73, 74, 75, 76, 77, 85, 86, 87, 88, 89, 90, 91, 92, 93, 94, 95, 96, 97, 98, 99, 100, 101, 102, 103, 104, 105, 106, 107, 108, 109, 110, 111, 112, 113, 114, 115, 116, 117, 118, 119, 120, 121, 122, 123, 124, 125, 126, 127, 128, 129, 130, 131, 132, 133, 134, 135, 136, 137, 138, 139, 140, 141, 142, 143, 144, 145, 146, 147, 148, 149, 150, 151] (by decide +kernel) (by decide +kernel)
set_option maxRecDepth 20000 in
theorem gX12_certificate_X12_handPasses : GoodIn wsX12_certificate (wsV RX12 452 RX12 yX12_handPasses wsX12_handPasses) := goodIn_app (goodIn_of _ (by decide +kernel)) ggX12_certificate_X12_handPasses
set_option maxRecDepth 20000 in
theorem ggX12_check_X12_isRefused : GoodIn wsX12_check wsX12_isRefused := goodIn_r _ [15, 16, 99, 100, 101, 102, 103, 104, 105, 106, 107, 108, 109, 110, 111, 112, 113, 114, 115, 116, 117, 118, 119, 120, 121, 122, 123, 124, 125, 126, 127, 128, 129, 130, 131, 132, 133, 134, 135, 136, 137, 138, 139, 140, 141, 142, 143, 144, 145, 146, 147, 148, 149, 150, 151, 152, 153, 154, 155, 156, 157, 158, 159, 160, 161, 162, 163, 164, 165] (by decide +kernel) (by decide +kernel)
set_option maxRecDepth 20000 in
theorem gX12_check_X12_isRefused : GoodIn wsX12_check (wsV RX12 224 RX12 yX12_isRefused wsX12_isRefused) := goodIn_app (goodIn_of _ (by decide +kernel)) ggX12_check_X12_isRefused
set_option maxRecDepth 20000 in
theorem ggX12_trials_X12_isIn : GoodIn wsX12_trials wsX12_isIn := goodIn_r _ [7] (by decide +kernel) (by decide +kernel)
set_option maxRecDepth 20000 in
theorem gX12_trials_X12_isIn : GoodIn wsX12_trials (va_wsS RX12 263 yX12_isIn wsX12_isIn) := goodIn_app (goodIn_of _ (by decide +kernel)) ggX12_trials_X12_isIn
set_option maxRecDepth 20000 in
theorem ggX12_trials_X12_isNumber : GoodIn wsX12_trials wsX12_isNumber := goodIn_r _ [11, 12, 4, 5, 6, 7, 116, 117, 118, 119, 120, 121, 122, 123, 124, 125, 126, 127, 128, 129, 130, 131, 132, 133, 134, 135, 136, 137, 138, 139, 140, 141, 142, 143, 144, 145, 146, 147, 148, 149, 150, 151, 152, 153, 154, 155, 156, 157, 158, 159, 160, 161, 162, 163, 164, 165, 166, 167, 168, 169, 170, 171, 172, 173, 174, 175, 176, 177, 178, 179, 180, 181, 182] (by decide +kernel) (by decide +kernel)
set_option maxRecDepth 20000 in
theorem gX12_trials_X12_isNumber : GoodIn wsX12_trials (wsV RX12 373 RX12 yX12_isNumber wsX12_isNumber) := goodIn_app (goodIn_of _ (by decide +kernel)) ggX12_trials_X12_isNumber
set_option maxRecDepth 20000 in
theorem ggX12_trials_X12_refuses : GoodIn wsX12_trials wsX12_refuses := goodIn_r _ [91, 92, 116, 117, 118, 119, 120, 121, 122, 123, 124, 125, 126, 127, 128, 129, 130, 131, 132, 133, 134, 135, 136, 137, 138, 139, 140, 141, 142, 143, 144, 145, 146, 147, 148, 149, 150, 151, 152, 153, 154, 155, 156, 157, 158, 159, 160, 161, 162, 163, 164, 165, 166, 167, 168, 169, 170, 171, 172, 173, 174, 175, 176, 177, 178, 179, 180, 181, 182] (by decide +kernel) (by decide +kernel)
set_option maxRecDepth 20000 in
theorem gX12_trials_X12_refuses : GoodIn wsX12_trials (wsV RX12 216 RX12 yX12_refuses wsX12_refuses) := goodIn_app (goodIn_of _ (by decide +kernel)) ggX12_trials_X12_refuses
set_option maxRecDepth 20000 in
theorem ggX12_trial_X12_isNumber : GoodIn wsX12_trial wsX12_isNumber := goodIn_r _ [9, 10, 11, 12, 8, 13, 111, 112, 113, 114, 115, 116, 117, 118, 119, 120, 121, 122, 123, 124, 125, 126, 127, 128, 129, 130, 131, 132, 133, 134, 135, 136, 137, 138, 139, 140, 141, 142, 143, 144, 145, 146, 147, 148, 149, 150, 151, 152, 153, 154, 155, 156, 157, 158, 159, 160, 161, 162, 163, 164, 165, 166, 167, 168, 169, 170, 171, 172, 173, 174, 175, 176, 177] (by decide +kernel) (by decide +kernel)
set_option maxRecDepth 20000 in
theorem gX12_trial_X12_isNumber : GoodIn wsX12_trial (wsV RX12 373 RX12 yX12_isNumber wsX12_isNumber) := goodIn_app (goodIn_of _ (by decide +kernel)) ggX12_trial_X12_isNumber
set_option maxRecDepth 20000 in
theorem ggX12_seed_X12_isRefused : GoodIn wsX12_seed wsX12_isRefused := goodIn_r _ [6, 7, 8, 9, 10, 11, 12, 13, 14, 15, 16, 17, 18, 19, 20, 21, 22, 23, 24, 25, 26, 27, 28, 29, 30, 31, 32, 33, 34, 35, 36, 37, 38, 39, 40, 41, 42, 43, 44, 45, 46, 47, 48, 49, 50, 51, 52, 53, 54, 55, 56, 57, 58, 59, 60, 61, 62, 63, 64, 65, 66, 67, 68, 69, 70, 71, 72, 73, 74] (by decide +kernel) (by decide +kernel)
set_option maxRecDepth 20000 in
theorem gX12_seed_X12_isRefused : GoodIn wsX12_seed (wsV RX12 224 RX12 yX12_isRefused wsX12_isRefused) := goodIn_app (goodIn_of _ (by decide +kernel)) ggX12_seed_X12_isRefused
set_option maxRecDepth 20000 in
theorem ggX12_status_X12_isIn : GoodIn wsX12_status wsX12_isIn := goodIn_r _ [6] (by decide +kernel) (by decide +kernel)
set_option maxRecDepth 20000 in
theorem gX12_status_X12_isIn : GoodIn wsX12_status (va_wsS RX12 263 yX12_isIn wsX12_isIn) := goodIn_app (goodIn_of _ (by decide +kernel)) ggX12_status_X12_isIn
set_option maxRecDepth 20000 in
theorem ggJ0_length_8abf5_J0_coder_7d493 : GoodIn wsJ0_length_8abf5 wsJ0_coder_7d493 := goodIn_r _ [6, 7, 8] (by decide +kernel) (by decide +kernel)
set_option maxRecDepth 20000 in
theorem gJ0_length_8abf5_J0_coder_7d493 : GoodIn wsJ0_length_8abf5 (wsV RJ0 335 RJ0 yJ0_coder_7d493 wsJ0_coder_7d493) := goodIn_app (goodIn_of _ (by decide +kernel)) ggJ0_length_8abf5_J0_coder_7d493
set_option maxRecDepth 20000 in
theorem ggJ0_charAt_5068e_J0_isLatin1_aae02 : GoodIn wsJ0_charAt_5068e wsJ0_isLatin1_aae02 := goodIn_r _ [6, 7, 8] (by decide +kernel) (by decide +kernel)
set_option maxRecDepth 20000 in
theorem gJ0_charAt_5068e_J0_isLatin1_aae02 : GoodIn wsJ0_charAt_5068e (wsV RJ0 492 RJ0 yJ0_isLatin1_aae02 wsJ0_isLatin1_aae02) := goodIn_app (goodIn_of _ (by decide +kernel)) ggJ0_charAt_5068e_J0_isLatin1_aae02
set_option maxRecDepth 20000 in
theorem ggJ0_charAt_5068e_J1_charAt_3b067 : GoodIn wsJ0_charAt_5068e wsJ1_charAt_3b067 := goodIn_r _ [12, 13, 14, 5, 15, 16, 17, 18, 19, 20] (by decide +kernel) (by decide +kernel)
set_option maxRecDepth 20000 in
theorem gJ0_charAt_5068e_J1_charAt_3b067 : GoodIn wsJ0_charAt_5068e (va_wsS RJ0 495 yJ1_charAt_3b067 wsJ1_charAt_3b067) := goodIn_app (goodIn_of _ (by decide +kernel)) ggJ0_charAt_5068e_J1_charAt_3b067
set_option maxRecDepth 20000 in
theorem ggJ0_checkIndex_df160_J3_checkIndex_8e157 : GoodIn wsJ0_checkIndex_df160 wsJ3_checkIndex_8e157 := goodIn_r _ [5] (by decide +kernel) (by decide +kernel)
set_option maxRecDepth 20000 in
theorem gJ0_checkIndex_df160_J3_checkIndex_8e157 : GoodIn wsJ0_checkIndex_df160 (va_wsS RJ0 1059 yJ3_checkIndex_8e157 wsJ3_checkIndex_8e157) := goodIn_app (goodIn_of _ (by decide +kernel)) ggJ0_checkIndex_df160_J3_checkIndex_8e157
set_option maxRecDepth 20000 in
theorem ggJ1_charAt_3b067_J0_checkIndex_df160 : GoodIn wsJ1_charAt_3b067 wsJ0_checkIndex_df160 := goodIn_r _ [4, 5, 6, 7, 8, 9] (by decide +kernel) (by decide +kernel)
set_option maxRecDepth 20000 in
theorem gJ1_charAt_3b067_J0_checkIndex_df160 : GoodIn wsJ1_charAt_3b067 (va_wsS RJ1 9 yJ0_checkIndex_df160 wsJ0_checkIndex_df160) := goodIn_app (goodIn_of _ (by decide +kernel)) ggJ1_charAt_3b067_J0_checkIndex_df160
