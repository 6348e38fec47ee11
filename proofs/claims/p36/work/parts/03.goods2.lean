set_option maxRecDepth 100000 in
theorem ggX11_take_X11_copyChoice : GoodIn wsX11_take wsX11_copyChoice := goodIn_r _ [225] rfl (by decide +kernel)
set_option maxRecDepth 100000 in
theorem gX11_take_X11_copyChoice : GoodIn wsX11_take (va_wsS RX11 265 yX11_copyChoice wsX11_copyChoice) := goodIn_app (goodIn_of _ (by decide +kernel)) ggX11_take_X11_copyChoice
set_option maxRecDepth 100000 in
theorem ggX11_take_X11_takeSingle : GoodIn wsX11_take wsX11_takeSingle := goodIn_r _ [229, 2, 1, 4, 230, 231, 232, 233, 25, 26, 27, 28, 29, 30, 31, 32, 234, 235, 236, 171, 237, 238, 239, 240, 241, 242, 175, 208, 209, 182, 179, 180, 224, 8, 225, 196, 145, 146, 147, 148, 149, 150, 151, 152, 153, 154, 102, 103, 45, 104, 47, 105, 155, 87, 88, 89, 90, 156, 157, 158, 159, 95, 195, 65, 66, 67, 68, 69, 70, 71, 72, 73, 74, 75, 76, 77, 78, 79, 80, 81, 82, 83, 84, 85, 86, 91, 92, 93, 94, 96, 97, 98, 99, 100, 101, 106, 107, 108, 109, 110, 111, 112, 113, 114, 115, 116, 117, 118, 119, 120, 121, 122, 123, 124, 125, 126, 127, 128, 129, 130, 131, 132, 133, 134, 135, 136, 137, 138, 139, 140, 141, 142, 143, 243, 244, 245, 191, 246, 193, 194, 253, 254, 255, 256, 257, 258, 259, 260, 261, 262, 263, 264, 265, 266, 267, 268, 299, 300, 301, 302, 303, 304, 305, 306, 307, 269, 270, 271, 272, 273, 274, 275, 276, 277, 278, 279, 280, 281, 282, 283, 284, 308, 309, 310, 311, 312, 313, 314, 315, 316, 317, 318, 319, 320, 321, 322, 323, 324, 325, 326, 327, 328, 329] rfl (by decide +kernel)
set_option maxRecDepth 100000 in
theorem gX11_take_X11_takeSingle : GoodIn wsX11_take (wsV RX11 323 RX11 yX11_takeSingle wsX11_takeSingle) := goodIn_app (goodIn_of _ (by decide +kernel)) ggX11_take_X11_takeSingle
set_option maxRecDepth 100000 in
theorem ggX11_take_X9_priceOf : GoodIn wsX11_take wsX9_priceOf := goodIn_r _ [147, 148, 29, 30, 149, 150, 151, 152, 27, 153, 154, 102, 103, 45, 104, 47, 105, 155, 87, 88, 89, 31, 90, 156, 157, 158, 159, 95, 299, 300, 301, 302, 303, 304, 305, 306, 307, 308, 309, 310, 311, 312, 313, 314, 315, 316, 317, 318, 319, 320, 321, 322, 323] rfl (by decide +kernel)
set_option maxRecDepth 100000 in
theorem gX11_take_X9_priceOf : GoodIn wsX11_take (wsV RX11 231 RX9 yX9_priceOf wsX9_priceOf) := goodIn_app (goodIn_of _ (by decide +kernel)) ggX11_take_X9_priceOf
set_option maxRecDepth 100000 in
theorem ggX11_take_X11_refuse : GoodIn wsX11_take wsX11_refuse := goodIn_r _ [251, 252, 253, 254, 255, 256, 257, 258, 259, 260, 261, 262, 263, 264, 265, 266, 267, 268] rfl (by decide +kernel)
set_option maxRecDepth 100000 in
theorem gX11_take_X11_refuse : GoodIn wsX11_take (wsV RX11 92 RX11 yX11_refuse wsX11_refuse) := goodIn_app (goodIn_of _ (by decide +kernel)) ggX11_take_X11_refuse
set_option maxRecDepth 100000 in
theorem ggX11_front_X9_isAnswer : GoodIn wsX11_front wsX9_isAnswer := goodIn_r _ [12, 13, 14, 15, 16, 17, 11, 18, 19, 214, 215, 216, 217, 218, 219, 220, 221, 222, 223, 224, 225, 226, 227, 228, 229, 230, 231, 232] rfl (by decide +kernel)
set_option maxRecDepth 100000 in
theorem gX11_front_X9_isAnswer : GoodIn wsX11_front (wsV RX11 251 RX9 yX9_isAnswer wsX9_isAnswer) := goodIn_app (goodIn_of _ (by decide +kernel)) ggX11_front_X9_isAnswer
set_option maxRecDepth 100000 in
theorem ggX11_front_X1_search : GoodIn wsX11_front wsX1_search := goodIn_r _ [24, 25, 26, 27, 28, 29, 30, 31, 32, 33, 34, 11, 35, 13, 19, 36, 37, 38, 39, 40, 23, 41, 42, 43, 44, 45, 46, 47, 48, 49, 50, 51, 52, 53, 54, 55, 56, 57, 58, 59, 60, 61, 62, 63, 64, 65, 66, 67, 68, 69, 70, 71, 72, 73, 74, 75, 76, 77, 78, 79, 80, 81, 82, 83, 84, 85, 86, 87, 88, 89, 90, 91, 92, 93, 94, 95, 96, 97, 98, 99, 100, 101, 102, 103, 104, 105, 106, 107, 108, 109, 110, 111, 112, 113, 114, 115, 116, 117, 118, 119, 120, 121, 122, 123, 124, 125, 126, 127, 128, 129, 130, 131, 132, 133, 134, 135, 136, 137, 138, 139, 140, 141, 9, 10, 12, 14, 15, 16, 17, 18, 142, 143, 144, 145, 146, 147, 148, 149, 150, 151, 152, 153, 154, 155, 156, 157, 158, 159, 160, 161, 162, 163, 164, 214, 215, 216, 217, 218, 219, 220, 221, 222, 223, 224, 225, 226, 227, 228, 229, 230, 231, 232, 233, 234, 235, 236, 237, 238, 200, 201, 202, 203, 204, 205, 206, 207, 208, 209, 210, 211, 212, 213, 239, 240, 241, 242, 243, 244] rfl (by decide +kernel)
set_option maxRecDepth 100000 in
theorem gX11_front_X1_search : GoodIn wsX11_front (wsV RX11 273 RX1 yX1_search wsX1_search) := goodIn_app (goodIn_of _ (by decide +kernel)) ggX11_front_X1_search
set_option maxRecDepth 100000 in
theorem ggX11_front_X1_drawFront : GoodIn wsX11_front wsX1_drawFront := goodIn_r _ [168, 169, 170, 25, 171, 30, 60, 58, 61, 62, 47, 48, 49, 50, 51, 52, 53, 172, 173, 174, 23, 175, 176, 177, 178, 179, 43, 63, 180, 181, 182, 183, 200, 201, 202, 203, 204, 205, 206, 207, 208, 209, 210, 211, 212, 213, 214, 215, 216, 217, 218, 219, 220, 221, 222, 223, 224, 225, 226, 227, 228, 229, 230, 231, 232] rfl (by decide +kernel)
set_option maxRecDepth 100000 in
theorem gX11_front_X1_drawFront : GoodIn wsX11_front (wsV RX11 326 RX1 yX1_drawFront wsX1_drawFront) := goodIn_app (goodIn_of _ (by decide +kernel)) ggX11_front_X1_drawFront
set_option maxRecDepth 100000 in
theorem ggX11_least_X9_isAnswer : GoodIn wsX11_least wsX9_isAnswer := goodIn_r _ [8, 9, 10, 11, 12, 13, 7, 14, 15, 187, 188, 189, 190, 191, 192, 193, 194, 195, 196, 197, 198, 199, 200, 201, 202, 203, 204, 205] rfl (by decide +kernel)
set_option maxRecDepth 100000 in
theorem gX11_least_X9_isAnswer : GoodIn wsX11_least (wsV RX11 251 RX9 yX9_isAnswer wsX9_isAnswer) := goodIn_app (goodIn_of _ (by decide +kernel)) ggX11_least_X9_isAnswer
set_option maxRecDepth 100000 in
theorem ggX11_least_X1_search : GoodIn wsX11_least wsX1_search := goodIn_r _ [20, 21, 22, 23, 24, 25, 26, 27, 28, 29, 30, 7, 31, 9, 15, 32, 33, 34, 35, 36, 19, 37, 38, 39, 40, 41, 42, 43, 44, 45, 46, 47, 48, 49, 50, 51, 52, 53, 54, 55, 56, 57, 58, 59, 60, 61, 62, 63, 64, 65, 66, 67, 68, 69, 70, 71, 72, 73, 74, 75, 76, 77, 78, 79, 80, 81, 82, 83, 84, 85, 86, 87, 88, 89, 90, 91, 92, 93, 94, 95, 96, 97, 98, 99, 100, 101, 102, 103, 104, 105, 106, 107, 108, 109, 110, 111, 112, 113, 114, 115, 116, 117, 118, 119, 120, 121, 122, 123, 124, 125, 126, 127, 128, 129, 130, 131, 132, 133, 134, 135, 136, 137, 5, 6, 8, 10, 11, 12, 13, 14, 138, 139, 140, 141, 142, 143, 144, 145, 146, 147, 148, 149, 150, 151, 152, 153, 154, 155, 156, 157, 158, 159, 160, 187, 188, 189, 190, 191, 192, 193, 194, 195, 196, 197, 198, 199, 200, 201, 202, 203, 204, 205, 206, 207, 208, 209, 210, 211, 212, 213, 214, 215, 216, 217, 218, 219, 220, 221, 222, 223, 224, 225, 226, 227, 228, 229, 230, 231] rfl (by decide +kernel)
set_option maxRecDepth 100000 in
theorem gX11_least_X1_search : GoodIn wsX11_least (wsV RX11 273 RX1 yX1_search wsX1_search) := goodIn_app (goodIn_of _ (by decide +kernel)) ggX11_least_X1_search
set_option maxRecDepth 100000 in
theorem ggX11_least_X1_leastWithin : GoodIn wsX11_least wsX1_leastWithin := goodIn_r _ [164, 21, 165, 26, 54, 43, 44, 45, 46, 47, 48, 49, 166, 167, 168, 19, 169, 39, 59, 170, 187, 188, 189, 190, 191, 192, 193, 194, 195, 212, 213, 214, 215, 216, 217, 218, 219, 220, 221, 222, 223, 224, 225, 196, 197, 198, 199, 200, 201, 202, 203, 204, 205] rfl (by decide +kernel)
set_option maxRecDepth 100000 in
theorem gX11_least_X1_leastWithin : GoodIn wsX11_least (wsV RX11 342 RX1 yX1_leastWithin wsX1_leastWithin) := goodIn_app (goodIn_of _ (by decide +kernel)) ggX11_least_X1_leastWithin
set_option maxRecDepth 100000 in
theorem ggX11_certificate_X11_handPasses : GoodIn wsX11_certificate wsX11_handPasses := goodIn_r _ [14, 1, 8, 5, 4, 15, 16, 17, 18, 19, 20, 21, 22, 23, 24, 25, 26, 27, 28, 29, 30, 31, 32, 33, 34, 35, 36, 37, 38, 39, 40, 41, 42, 43, 44, 45, 46, 47, 48, 49, 50, 51, 52, 53, 54, 55, 56, 57, 58, 59, 60, 61, 62, 63, 64, 65, 66, 67, 68, 69, 70, 71, 72, 73, 13, 74, 75, 76, 77, 78, 79, 80, 81, 82, 83, 84, 85, 86, 87, 88, 89, 90, 91, 92, 93, 94, 95, 96, 97, 98, 99, 100, 101, 102, 103, 104, 105, 111, 112, 113, 114, 115, 116, 117, 118, 119, 120, 121, 122, 123, 124, 125, 126, 127, 128, 129, 130, 131, 132, 133, 134, 135, 136, 137, 138, 139, 140, 141, 142, 143, 144, 145, 152, 153, 154, 155, 156, 157, 149, 150, 151, 146, 147, 148] rfl (by decide +kernel)
set_option maxRecDepth 100000 in
theorem gX11_certificate_X11_handPasses : GoodIn wsX11_certificate (wsV RX11 254 RX11 yX11_handPasses wsX11_handPasses) := goodIn_app (goodIn_of _ (by decide +kernel)) ggX11_certificate_X11_handPasses
set_option maxRecDepth 100000 in
theorem ggX11_certificate_X9_formatOf : GoodIn wsX11_certificate wsX9_formatOf := goodIn_r _ [49, 20, 21, 22, 50, 127, 128, 129, 130, 131, 132, 133, 134, 135, 136, 137, 138, 139, 140, 141, 142, 143, 144, 145, 152, 153, 154, 155, 156, 157] rfl (by decide +kernel)
set_option maxRecDepth 100000 in
theorem gX11_certificate_X9_formatOf : GoodIn wsX11_certificate (wsV RX11 224 RX9 yX9_formatOf wsX9_formatOf) := goodIn_app (goodIn_of _ (by decide +kernel)) ggX11_certificate_X9_formatOf
set_option maxRecDepth 100000 in
theorem ggX11_certificate_X11_byteOf : GoodIn wsX11_certificate wsX11_byteOf := goodIn_r _ [109, 110] rfl (by decide +kernel)
set_option maxRecDepth 100000 in
theorem gX11_certificate_X11_byteOf : GoodIn wsX11_certificate (va_wsS RX11 346 yX11_byteOf wsX11_byteOf) := goodIn_app (goodIn_of _ (by decide +kernel)) ggX11_certificate_X11_byteOf
set_option maxRecDepth 100000 in
theorem ggX11_check_X0_holds : GoodIn wsX11_check wsX0_holds := goodIn_r _ [9, 10, 11, 12, 13, 14, 15, 16, 17, 18, 8, 19, 20, 21, 22, 23, 24, 25, 26, 27, 28, 29, 30, 31, 32, 33, 34, 35, 36, 37, 38, 39, 40, 41, 42, 43, 44, 45, 46, 47, 48, 49, 50, 51, 52, 53, 54, 55, 56, 57, 58, 59, 60, 61, 62, 63, 64, 65, 66, 67, 68, 69, 70, 71, 72, 73, 74, 75, 76, 77, 78, 79, 80, 81, 82, 83, 84, 85, 86, 87, 88, 89, 90, 91, 92, 93, 94, 95, 96, 97, 98, 99, 100, 101, 102, 103, 104, 105, 106, 107, 108, 109, 110, 111, 112, 113, 114, 115, 116, 117, 118, 119, 120, 121, 122, 123, 124, 125, 126, 127, 128, 129, 130, 131, 132, 133, 134, 135, 136, 137, 138, 139, 140, 141, 142, 143, 144, 145, 146, 147, 148, 149, 150, 151, 152, 153, 154, 155, 156, 157, 158, 159, 160, 161, 162, 163, 164, 186, 187, 188, 189, 190, 191, 192, 193, 194, 195, 196, 197, 198, 199, 200, 201, 202, 203, 204, 205, 206, 207, 208, 209, 210, 211, 212, 213, 214, 215, 216, 217, 218, 219, 220, 221] rfl (by decide +kernel)
set_option maxRecDepth 100000 in
theorem gX11_check_X0_holds : GoodIn wsX11_check (wsV RX11 350 RX0 yX0_holds wsX0_holds) := goodIn_app (goodIn_of _ (by decide +kernel)) ggX11_check_X0_holds
set_option maxRecDepth 100000 in
theorem ggX11_check_X11_refuse : GoodIn wsX11_check wsX11_refuse := goodIn_r _ [168, 169, 170, 171, 172, 173, 174, 175, 176, 177, 178, 179, 180, 181, 182, 183, 184, 185] rfl (by decide +kernel)
set_option maxRecDepth 100000 in
theorem gX11_check_X11_refuse : GoodIn wsX11_check (wsV RX11 92 RX11 yX11_refuse wsX11_refuse) := goodIn_app (goodIn_of _ (by decide +kernel)) ggX11_check_X11_refuse
set_option maxRecDepth 100000 in
theorem ggX11_trials_X9_hasNumber : GoodIn wsX11_trials wsX9_hasNumber := goodIn_r _ [18, 19, 20, 165, 166, 167, 168, 169, 170, 171, 172, 173, 174, 175, 176, 177, 178, 179, 180, 181, 182, 183] rfl (by decide +kernel)
set_option maxRecDepth 100000 in
theorem gX11_trials_X9_hasNumber : GoodIn wsX11_trials (wsV RX11 157 RX9 yX9_hasNumber wsX9_hasNumber) := goodIn_app (goodIn_of _ (by decide +kernel)) ggX11_trials_X9_hasNumber
set_option maxRecDepth 100000 in
theorem ggX11_trials_X11_handPasses : GoodIn wsX11_trials wsX11_handPasses := goodIn_r _ [25, 1, 26, 27, 3, 28, 29, 30, 17, 31, 19, 20, 32, 33, 34, 35, 36, 37, 38, 39, 40, 41, 42, 43, 44, 45, 46, 47, 48, 49, 50, 12, 9, 13, 51, 52, 53, 54, 55, 56, 57, 58, 59, 60, 61, 62, 63, 64, 65, 66, 67, 68, 69, 70, 71, 72, 73, 74, 75, 76, 77, 78, 79, 80, 24, 81, 82, 83, 84, 85, 86, 87, 8, 10, 88, 89, 90, 91, 92, 93, 94, 95, 96, 97, 98, 99, 100, 101, 102, 103, 104, 105, 106, 107, 15, 16, 18, 147, 148, 149, 150, 151, 152, 153, 154, 155, 156, 157, 158, 159, 160, 161, 162, 165, 166, 167, 168, 169, 170, 171, 172, 173, 174, 175, 176, 177, 178, 179, 180, 181, 182, 183, 184, 185, 186, 187, 188, 189, 190, 191, 192, 193, 194, 195] rfl (by decide +kernel)
set_option maxRecDepth 100000 in
theorem gX11_trials_X11_handPasses : GoodIn wsX11_trials (wsV RX11 254 RX11 yX11_handPasses wsX11_handPasses) := goodIn_app (goodIn_of _ (by decide +kernel)) ggX11_trials_X11_handPasses
set_option maxRecDepth 100000 in
theorem ggX11_trials_X11_refuse : GoodIn wsX11_trials wsX11_refuse := goodIn_r _ [111, 112, 147, 148, 149, 150, 151, 152, 153, 154, 155, 156, 157, 158, 159, 160, 161, 162] rfl (by decide +kernel)
set_option maxRecDepth 100000 in
theorem gX11_trials_X11_refuse : GoodIn wsX11_trials (wsV RX11 92 RX11 yX11_refuse wsX11_refuse) := goodIn_app (goodIn_of _ (by decide +kernel)) ggX11_trials_X11_refuse
set_option maxRecDepth 100000 in
theorem ggX11_trials_X8_sample : GoodIn wsX11_trials wsX8_sample := goodIn_r _ [117, 118, 119, 120, 121, 122, 123, 124, 125, 126, 54, 55, 17, 56, 19, 20, 32, 57, 127, 59, 60, 61, 62, 63, 128, 76, 77, 71, 78, 73, 79, 129, 24, 130, 131, 132, 133, 134, 135, 136, 137, 116, 138, 139, 69, 70, 72, 74, 140, 141, 142, 143, 144, 9, 145, 11, 12, 13, 146, 165, 166, 167, 168, 169, 170, 171, 172, 173, 174, 175, 176, 177, 178, 179, 180, 181, 182, 183, 163, 164, 184, 185, 186, 187, 188, 189] rfl (by decide +kernel)
set_option maxRecDepth 100000 in
theorem gX11_trials_X8_sample : GoodIn wsX11_trials (wsV RX11 357 RX8 yX8_sample wsX8_sample) := goodIn_app (goodIn_of _ (by decide +kernel)) ggX11_trials_X8_sample
set_option maxRecDepth 100000 in
theorem ggX11_trial_X9_hasNumber : GoodIn wsX11_trial wsX9_hasNumber := goodIn_r _ [12, 13, 14, 160, 161, 162, 163, 164, 165, 166, 167, 168, 169, 170, 171, 172, 173, 174, 175, 176, 177, 178] rfl (by decide +kernel)
set_option maxRecDepth 100000 in
theorem gX11_trial_X9_hasNumber : GoodIn wsX11_trial (wsV RX11 157 RX9 yX9_hasNumber wsX9_hasNumber) := goodIn_app (goodIn_of _ (by decide +kernel)) ggX11_trial_X9_hasNumber
set_option maxRecDepth 100000 in
theorem ggX11_trial_X11_handPasses : GoodIn wsX11_trial wsX11_handPasses := goodIn_r _ [19, 1, 20, 21, 4, 22, 23, 24, 11, 25, 13, 14, 26, 27, 28, 29, 30, 31, 32, 33, 34, 35, 36, 37, 38, 39, 40, 41, 42, 43, 44, 45, 46, 47, 48, 49, 50, 51, 52, 53, 54, 55, 56, 57, 58, 59, 60, 61, 62, 63, 64, 65, 66, 67, 68, 69, 70, 71, 72, 73, 74, 75, 76, 77, 18, 78, 79, 80, 81, 82, 83, 84, 85, 86, 87, 88, 89, 90, 91, 92, 93, 94, 95, 96, 97, 98, 99, 100, 101, 102, 103, 104, 105, 106, 9, 10, 12, 142, 143, 144, 145, 146, 147, 148, 149, 150, 151, 152, 153, 154, 155, 156, 157, 160, 161, 162, 163, 164, 165, 166, 167, 168, 169, 170, 171, 172, 173, 174, 175, 176, 177, 178, 179, 180, 181, 182, 183, 184, 185, 186, 187, 188, 189, 190] rfl (by decide +kernel)
set_option maxRecDepth 100000 in
theorem gX11_trial_X11_handPasses : GoodIn wsX11_trial (wsV RX11 254 RX11 yX11_handPasses wsX11_handPasses) := goodIn_app (goodIn_of _ (by decide +kernel)) ggX11_trial_X11_handPasses
set_option maxRecDepth 100000 in
theorem ggX11_trial_X8_sample : GoodIn wsX11_trial wsX8_sample := goodIn_r _ [111, 112, 113, 114, 115, 116, 117, 118, 119, 120, 51, 52, 11, 53, 13, 14, 26, 54, 121, 56, 57, 58, 59, 60, 122, 73, 74, 68, 75, 70, 76, 123, 18, 124, 125, 126, 127, 128, 129, 130, 131, 110, 132, 133, 66, 67, 69, 71, 134, 135, 136, 137, 138, 46, 139, 140, 45, 47, 141, 160, 161, 162, 163, 164, 165, 166, 167, 168, 169, 170, 171, 172, 173, 174, 175, 176, 177, 178, 158, 159, 179, 180, 181, 182, 183, 184] rfl (by decide +kernel)
set_option maxRecDepth 100000 in
theorem gX11_trial_X8_sample : GoodIn wsX11_trial (wsV RX11 357 RX8 yX8_sample wsX8_sample) := goodIn_app (goodIn_of _ (by decide +kernel)) ggX11_trial_X8_sample
set_option maxRecDepth 100000 in
theorem ggX11_seed_X11_refuse : GoodIn wsX11_seed wsX11_refuse := goodIn_r _ [6, 7, 8, 9, 10, 11, 12, 13, 14, 15, 16, 17, 18, 19, 20, 21, 22, 23] rfl (by decide +kernel)
set_option maxRecDepth 100000 in
theorem gX11_seed_X11_refuse : GoodIn wsX11_seed (wsV RX11 92 RX11 yX11_refuse wsX11_refuse) := goodIn_app (goodIn_of _ (by decide +kernel)) ggX11_seed_X11_refuse
set_option maxRecDepth 100000 in
theorem ggX11_handPasses_X9_hasChoice : GoodIn wsX11_handPasses wsX9_hasChoice := goodIn_r _ [9, 10, 11, 12, 13, 113, 114, 115, 116, 117, 118, 119, 120, 121, 122, 123, 124, 125, 126, 127, 128, 129, 130, 131, 132, 133, 134, 135, 136, 137] rfl (by decide +kernel)
set_option maxRecDepth 100000 in
theorem gX11_handPasses_X9_hasChoice : GoodIn wsX11_handPasses (wsV RX11 220 RX9 yX9_hasChoice wsX9_hasChoice) := goodIn_app (goodIn_of _ (by decide +kernel)) ggX11_handPasses_X9_hasChoice
set_option maxRecDepth 100000 in
theorem ggX11_handPasses_X7_reckon : GoodIn wsX11_handPasses wsX7_reckon := goodIn_r _ [18, 19, 20, 21, 22, 23, 24, 25, 26, 27, 17, 28, 29, 30, 31, 32, 33, 34, 35, 36, 37, 38, 8, 39, 10, 11, 12, 40, 41, 42, 43, 44, 45, 46, 47, 48, 49, 50, 51, 52, 53, 54, 55, 56, 57, 58, 59, 60, 61, 62, 63, 64, 65, 66, 67, 68, 69, 70, 71, 72, 73, 74, 75, 76, 77, 78, 79, 80, 81, 82, 83, 84, 85, 86, 87, 88, 89, 90, 91, 92, 93, 94, 95, 96, 138, 139, 140, 113, 114, 115, 116, 117, 118, 119, 120, 121, 122, 123, 124, 125, 126, 127, 128, 129, 130, 131, 132, 133, 134, 135, 136, 137, 141, 142, 143] rfl (by decide +kernel)
set_option maxRecDepth 100000 in
theorem gX11_handPasses_X7_reckon : GoodIn wsX11_handPasses (wsV RX11 238 RX7 yX7_reckon wsX7_reckon) := goodIn_app (goodIn_of _ (by decide +kernel)) ggX11_handPasses_X7_reckon
set_option maxRecDepth 100000 in
theorem ggX11_passesLonger_X6_fill : GoodIn wsX11_passesLonger wsX6_fill := goodIn_r _ [10, 11, 12, 13, 14, 15, 16, 17, 18, 9, 19, 20, 21, 22, 23, 24, 25, 26, 27, 28, 29, 30, 31, 32, 33, 34, 35, 36, 37, 38, 39, 40, 41, 42, 43, 44, 45, 46, 47, 48, 49, 50, 51, 52, 53, 54, 55, 56, 57, 58, 59, 60, 61, 62, 63, 64, 65, 66, 67, 68, 69, 70, 71, 72, 73, 74, 75, 76, 77, 78, 79, 80, 81, 82, 83, 84, 85, 172, 173, 174, 175, 176, 177, 178, 179, 180, 181, 182, 183, 184] rfl (by decide +kernel)
set_option maxRecDepth 100000 in
theorem gX11_passesLonger_X6_fill : GoodIn wsX11_passesLonger (wsV RX11 377 RX6 yX6_fill wsX6_fill) := goodIn_app (goodIn_of _ (by decide +kernel)) ggX11_passesLonger_X6_fill
set_option maxRecDepth 100000 in
theorem ggX11_passesLonger_X7_reckon : GoodIn wsX11_passesLonger wsX7_reckon := goodIn_r _ [90, 91, 92, 93, 94, 95, 96, 97, 98, 99, 89, 100, 101, 102, 51, 23, 52, 103, 104, 105, 106, 107, 108, 109, 110, 111, 112, 113, 114, 115, 116, 117, 118, 119, 120, 121, 122, 123, 124, 30, 31, 32, 33, 34, 35, 125, 37, 38, 39, 40, 126, 46, 127, 128, 129, 130, 9, 131, 79, 80, 81, 12, 13, 65, 29, 36, 132, 133, 134, 135, 136, 137, 76, 77, 78, 138, 139, 140, 141, 142, 143, 144, 145, 146, 185, 186, 187, 163, 164, 165, 166, 167, 168, 169, 170, 171, 172, 173, 174, 175, 176, 177, 178, 179, 180, 181, 188, 189, 190, 191, 192, 193, 182, 183, 184] rfl (by decide +kernel)
set_option maxRecDepth 100000 in
theorem gX11_passesLonger_X7_reckon : GoodIn wsX11_passesLonger (wsV RX11 238 RX7 yX7_reckon wsX7_reckon) := goodIn_app (goodIn_of _ (by decide +kernel)) ggX11_passesLonger_X7_reckon
set_option maxRecDepth 100000 in
theorem ggX11_takeCheapest_X1_search : GoodIn wsX11_takeCheapest wsX1_search := goodIn_r _ [9, 10, 11, 12, 13, 14, 15, 16, 17, 18, 19, 20, 21, 22, 23, 24, 25, 26, 27, 28, 8, 29, 30, 31, 32, 33, 34, 35, 36, 37, 38, 39, 40, 41, 42, 43, 44, 45, 46, 47, 48, 49, 50, 51, 52, 53, 54, 55, 56, 57, 58, 59, 60, 61, 62, 63, 64, 65, 66, 67, 68, 69, 70, 71, 72, 73, 74, 75, 76, 77, 78, 79, 80, 81, 82, 83, 84, 85, 86, 87, 88, 89, 90, 91, 92, 93, 94, 95, 96, 97, 98, 99, 100, 101, 102, 103, 104, 105, 106, 107, 108, 109, 110, 111, 112, 113, 114, 115, 116, 117, 118, 119, 120, 121, 122, 123, 124, 125, 126, 127, 128, 129, 130, 131, 132, 133, 134, 135, 136, 137, 138, 139, 140, 141, 142, 143, 144, 145, 146, 147, 148, 149, 150, 151, 152, 153, 154, 155, 156, 157, 158, 159, 160, 192, 193, 194, 195, 196, 197, 198, 199, 200, 201, 202, 203, 204, 205, 206, 207, 208, 209, 210, 211, 212, 213, 214, 215, 216, 178, 179, 180, 181, 182, 183, 184, 185, 186, 187, 188, 189, 190, 191, 217, 218, 219, 220, 221, 222] rfl (by decide +kernel)
set_option maxRecDepth 100000 in
theorem gX11_takeCheapest_X1_search : GoodIn wsX11_takeCheapest (wsV RX11 273 RX1 yX1_search wsX1_search) := goodIn_app (goodIn_of _ (by decide +kernel)) ggX11_takeCheapest_X1_search
set_option maxRecDepth 100000 in
theorem ggX11_takeCheapest_X1_unfold : GoodIn wsX11_takeCheapest wsX1_unfold := goodIn_r _ [54, 12, 55, 56, 30, 192, 193, 194, 195, 196, 197, 198, 199, 200, 211, 212, 213, 214, 215, 216] rfl (by decide +kernel)
set_option maxRecDepth 100000 in
theorem gX11_takeCheapest_X1_unfold : GoodIn wsX11_takeCheapest (va_wsS RX11 283 yX1_unfold wsX1_unfold) := goodIn_app (goodIn_of _ (by decide +kernel)) ggX11_takeCheapest_X1_unfold
set_option maxRecDepth 100000 in
theorem ggX11_takeSingle_X9_hasChoice : GoodIn wsX11_takeSingle wsX9_hasChoice := goodIn_r _ [11, 12, 13, 14, 15, 156, 157, 158, 159, 160, 161, 162, 163, 164, 181, 182, 183, 184, 185, 186, 187, 188, 189, 190, 191, 192, 193, 194, 195, 196] rfl (by decide +kernel)
set_option maxRecDepth 100000 in
theorem gX11_takeSingle_X9_hasChoice : GoodIn wsX11_takeSingle (wsV RX11 220 RX9 yX9_hasChoice wsX9_hasChoice) := goodIn_app (goodIn_of _ (by decide +kernel)) ggX11_takeSingle_X9_hasChoice
set_option maxRecDepth 100000 in
theorem ggX11_takeSingle_X3_lookAround : GoodIn wsX11_takeSingle wsX3_lookAround := goodIn_r _ [20, 21, 22, 23, 24, 25, 26, 27, 28, 29, 30, 31, 32, 33, 34, 35, 36, 37, 10, 38, 39, 12, 13, 40, 41, 42, 43, 44, 45, 46, 47, 48, 49, 50, 51, 52, 53, 54, 55, 14, 56, 57, 58, 59, 60, 61, 62, 63, 64, 65, 66, 67, 68, 69, 70, 71, 72, 73, 74, 75, 76, 77, 78, 79, 80, 81, 82, 83, 84, 85, 86, 87, 88, 89, 90, 91, 92, 93, 94, 95, 96, 97, 98, 99, 100, 101, 102, 103, 104, 105, 106, 107, 108, 109, 110, 111, 112, 113, 114, 115, 116, 117, 118, 119, 120, 121, 122, 123, 124, 125, 126, 127, 128, 129, 130, 131, 132, 165, 166, 167, 168, 169, 170, 171, 172, 173, 174, 175, 176, 177, 178, 179, 180, 156, 157, 158, 159, 160, 161, 162, 163, 164, 191, 192, 193, 194, 195, 196, 181, 182, 183, 184, 185, 186, 187, 188, 189, 190, 197, 198, 199, 200, 201, 202] rfl (by decide +kernel)
set_option maxRecDepth 100000 in
theorem gX11_takeSingle_X3_lookAround : GoodIn wsX11_takeSingle (wsV RX11 301 RX3 yX3_lookAround wsX3_lookAround) := goodIn_app (goodIn_of _ (by decide +kernel)) ggX11_takeSingle_X3_lookAround
set_option maxRecDepth 100000 in
theorem ggX11_takeSingle_X2_isFree : GoodIn wsX11_takeSingle wsX2_isFree := goodIn_r _ [137, 138, 139, 191, 192, 193, 194, 195, 196] rfl (by decide +kernel)
set_option maxRecDepth 100000 in
theorem gX11_takeSingle_X2_isFree : GoodIn wsX11_takeSingle (wsV RX11 381 RX2 yX2_isFree wsX2_isFree) := goodIn_app (goodIn_of _ (by decide +kernel)) ggX11_takeSingle_X2_isFree
set_option maxRecDepth 100000 in
theorem ggX11_nearest_J9_floorDiv_f86c9 : GoodIn wsX11_nearest wsJ9_floorDiv_f86c9 := goodIn_r _ [5] rfl (by decide +kernel)
set_option maxRecDepth 100000 in
theorem gX11_nearest_J9_floorDiv_f86c9 : GoodIn wsX11_nearest (va_wsS RX11 386 yJ9_floorDiv_f86c9 wsJ9_floorDiv_f86c9) := goodIn_app (goodIn_of _ (by decide +kernel)) ggX11_nearest_J9_floorDiv_f86c9
set_option maxRecDepth 100000 in
theorem ggX11_apply_X11_nearest : GoodIn wsX11_apply wsX11_nearest := goodIn_r _ [12, 13, 14, 15, 16, 17] rfl (by decide +kernel)
set_option maxRecDepth 100000 in
theorem gX11_apply_X11_nearest : GoodIn wsX11_apply (va_wsS RX11 391 yX11_nearest wsX11_nearest) := goodIn_app (goodIn_of _ (by decide +kernel)) ggX11_apply_X11_nearest
