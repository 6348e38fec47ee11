set_option maxRecDepth 20000 in
theorem ggX2_gather_X2_earlierGroup : GoodIn wsX2_gather wsX2_earlierGroup := goodIn_r _ [13, 14, 4, 25, 26, 27, 28, 29, 30, 31, 32, 33, 34, 19, 20, 21, 22, 23, 24] (by decide +kernel) (by decide +kernel)
set_option maxRecDepth 20000 in
theorem gX2_gather_X2_earlierGroup : GoodIn wsX2_gather (wsV RX2 32 RX2 yX2_earlierGroup wsX2_earlierGroup) := goodIn_app (goodIn_of _ (by decide +kernel)) ggX2_gather_X2_earlierGroup
set_option maxRecDepth 20000 in
theorem ggX2_gather_X2_fix : GoodIn wsX2_gather wsX2_fix := goodIn_r _ [18, 6, 2, 19, 20, 21, 22, 23, 24] (by decide +kernel) (by decide +kernel)
set_option maxRecDepth 20000 in
theorem gX2_gather_X2_fix : GoodIn wsX2_gather (wsV RX2 37 RX2 yX2_fix wsX2_fix) := goodIn_app (goodIn_of _ (by decide +kernel)) ggX2_gather_X2_fix
set_option maxRecDepth 20000 in
theorem ggX4_add_X4_letsOf : GoodIn wsX4_add wsX4_letsOf := goodIn_r _ [17, 18, 1, 7, 19, 20, 21, 22, 23, 24, 25, 26, 27, 28] (by decide +kernel) (by decide +kernel)
set_option maxRecDepth 20000 in
theorem gX4_add_X4_letsOf : GoodIn wsX4_add (wsV RX4 40 RX4 yX4_letsOf wsX4_letsOf) := goodIn_app (goodIn_of _ (by decide +kernel)) ggX4_add_X4_letsOf
set_option maxRecDepth 20000 in
theorem ggX4_madeFrom_X4_madeOf : GoodIn wsX4_madeFrom wsX4_madeOf := goodIn_r _ [6, 1, 7, 11, 12, 13, 14, 15, 16, 17, 18, 19, 20] (by decide +kernel) (by decide +kernel)
set_option maxRecDepth 20000 in
theorem gX4_madeFrom_X4_madeOf : GoodIn wsX4_madeFrom (wsV RX4 53 RX4 yX4_madeOf wsX4_madeOf) := goodIn_app (goodIn_of _ (by decide +kernel)) ggX4_madeFrom_X4_madeOf
set_option maxRecDepth 20000 in
theorem ggX4_madeFrom_X4_isAmong : GoodIn wsX4_madeFrom wsX4_isAmong := goodIn_r _ [10] (by decide +kernel) (by decide +kernel)
set_option maxRecDepth 20000 in
theorem gX4_madeFrom_X4_isAmong : GoodIn wsX4_madeFrom (va_wsS RX4 56 yX4_isAmong wsX4_isAmong) := goodIn_app (goodIn_of _ (by decide +kernel)) ggX4_madeFrom_X4_isAmong
set_option maxRecDepth 20000 in
theorem ggX9_isAnswer_X9_hasNumber : GoodIn wsX9_isAnswer wsX9_hasNumber := goodIn_r _ [7, 1, 8, 9, 10, 11, 12, 13, 14, 15, 16, 17, 18, 19, 20, 21, 22, 23, 24, 25, 26, 27] (by decide +kernel) (by decide +kernel)
set_option maxRecDepth 20000 in
theorem gX9_isAnswer_X9_hasNumber : GoodIn wsX9_isAnswer (wsV RX9 70 RX9 yX9_hasNumber wsX9_hasNumber) := goodIn_app (goodIn_of _ (by decide +kernel)) ggX9_isAnswer_X9_hasNumber
set_option maxRecDepth 20000 in
theorem ggX9_isInput_X9_hasNumber : GoodIn wsX9_isInput wsX9_hasNumber := goodIn_r _ [7, 1, 8, 9, 10, 11, 12, 13, 14, 15, 16, 17, 18, 19, 20, 21, 22, 23, 24, 25, 26, 27] (by decide +kernel) (by decide +kernel)
set_option maxRecDepth 20000 in
theorem gX9_isInput_X9_hasNumber : GoodIn wsX9_isInput (wsV RX9 70 RX9 yX9_hasNumber wsX9_hasNumber) := goodIn_app (goodIn_of _ (by decide +kernel)) ggX9_isInput_X9_hasNumber
set_option maxRecDepth 20000 in
theorem ggX9_isFree_X9_hasNumber : GoodIn wsX9_isFree wsX9_hasNumber := goodIn_r _ [7, 8, 9, 17, 18, 19, 20, 21, 22, 23, 24, 25, 32, 33, 34, 35, 36, 37, 38, 39, 40, 41] (by decide +kernel) (by decide +kernel)
set_option maxRecDepth 20000 in
theorem gX9_isFree_X9_hasNumber : GoodIn wsX9_isFree (wsV RX9 70 RX9 yX9_hasNumber wsX9_hasNumber) := goodIn_app (goodIn_of _ (by decide +kernel)) ggX9_isFree_X9_hasNumber
set_option maxRecDepth 20000 in
theorem ggX9_isFree_X2_isFree : GoodIn wsX9_isFree wsX2_isFree := goodIn_r _ [14, 15, 16, 26, 27, 28, 29, 30, 31] (by decide +kernel) (by decide +kernel)
set_option maxRecDepth 20000 in
theorem gX9_isFree_X2_isFree : GoodIn wsX9_isFree (wsV RX9 83 RX2 yX2_isFree wsX2_isFree) := goodIn_app (goodIn_of _ (by decide +kernel)) ggX9_isFree_X2_isFree
set_option maxRecDepth 20000 in
theorem ggX9_castsOf_X4_madeOf : GoodIn wsX9_castsOf wsX4_madeOf := goodIn_r _ [7, 8, 9, 26, 27, 28, 29, 30, 31, 32, 33, 34, 35] (by decide +kernel) (by decide +kernel)
set_option maxRecDepth 20000 in
theorem gX9_castsOf_X4_madeOf : GoodIn wsX9_castsOf (wsV RX9 86 RX4 yX4_madeOf wsX4_madeOf) := goodIn_app (goodIn_of _ (by decide +kernel)) ggX9_castsOf_X4_madeOf
set_option maxRecDepth 20000 in
theorem ggX9_castsOf_X9_formatOf : GoodIn wsX9_castsOf wsX9_formatOf := goodIn_r _ [14, 1, 2, 15, 16, 17, 18, 19, 20, 21, 22, 23, 24, 25, 26, 27, 28, 29, 30, 31, 32, 33, 34, 35, 36, 37, 38, 39, 40, 41] (by decide +kernel) (by decide +kernel)
set_option maxRecDepth 20000 in
theorem gX9_castsOf_X9_formatOf : GoodIn wsX9_castsOf (wsV RX9 90 RX9 yX9_formatOf wsX9_formatOf) := goodIn_app (goodIn_of _ (by decide +kernel)) ggX9_castsOf_X9_formatOf
set_option maxRecDepth 20000 in
theorem ggX9_priceOf_X9_castsOf : GoodIn wsX9_priceOf wsX9_castsOf := goodIn_r _ [9, 2, 3, 10, 11, 12, 13, 14, 15, 16, 17, 18, 19, 8, 20, 21, 22, 28, 29, 30, 31, 32, 33, 34, 35, 36, 37, 38, 39, 40, 41, 42, 43, 44, 45, 46, 47, 48, 49, 50, 51, 52] (by decide +kernel) (by decide +kernel)
set_option maxRecDepth 20000 in
theorem gX9_priceOf_X9_castsOf : GoodIn wsX9_priceOf (wsV RX9 94 RX9 yX9_castsOf wsX9_castsOf) := goodIn_app (goodIn_of _ (by decide +kernel)) ggX9_priceOf_X9_castsOf
set_option maxRecDepth 20000 in
theorem ggX9_priceOf_X9_formatOf : GoodIn wsX9_priceOf wsX9_formatOf := goodIn_r _ [20, 2, 3, 21, 22, 28, 29, 30, 31, 32, 33, 34, 35, 36, 37, 38, 39, 40, 41, 42, 43, 44, 45, 46, 47, 48, 49, 50, 51, 52] (by decide +kernel) (by decide +kernel)
set_option maxRecDepth 20000 in
theorem gX9_priceOf_X9_formatOf : GoodIn wsX9_priceOf (wsV RX9 90 RX9 yX9_formatOf wsX9_formatOf) := goodIn_app (goodIn_of _ (by decide +kernel)) ggX9_priceOf_X9_formatOf
set_option maxRecDepth 20000 in
theorem ggX9_priceOf_X9_hasFormat : GoodIn wsX9_priceOf wsX9_hasFormat := goodIn_r _ [26, 27, 28, 29, 30, 31, 32, 33, 34, 35, 36] (by decide +kernel) (by decide +kernel)
set_option maxRecDepth 20000 in
theorem gX9_priceOf_X9_hasFormat : GoodIn wsX9_priceOf (wsV RX9 98 RX9 yX9_hasFormat wsX9_hasFormat) := goodIn_app (goodIn_of _ (by decide +kernel)) ggX9_priceOf_X9_hasFormat
