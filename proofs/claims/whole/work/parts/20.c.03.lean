set_option maxRecDepth 20000 in
theorem ggX7_took_X7_checksum : GoodIn wsX7_took wsX7_checksum := goodIn_r _ [19] (by decide +kernel) (by decide +kernel)
set_option maxRecDepth 20000 in
theorem gX7_took_X7_checksum : GoodIn wsX7_took (va_wsS RX7 203 yX7_checksum wsX7_checksum) := goodIn_app (goodIn_of _ (by decide +kernel)) ggX7_took_X7_checksum
set_option maxRecDepth 20000 in
theorem ggX7_took_X7_error : GoodIn wsX7_took wsX7_error := goodIn_r _ [23, 24, 25, 35, 36, 37, 38, 39, 40, 41, 42, 43, 44, 45, 46, 47, 48, 49, 50, 51, 52, 53, 54, 55, 56, 57, 58, 59, 60, 61, 62, 63, 64, 65, 66, 67, 68, 69, 70, 71, 72, 73, 74, 75, 76] (by decide +kernel) (by decide +kernel)
set_option maxRecDepth 20000 in
theorem gX7_took_X7_error : GoodIn wsX7_took (wsV RX7 178 RX7 yX7_error wsX7_error) := goodIn_app (goodIn_of _ (by decide +kernel)) ggX7_took_X7_error
set_option maxRecDepth 20000 in
theorem ggX7_took_X7_rests : GoodIn wsX7_took wsX7_rests := goodIn_r _ [29, 3, 30, 31, 32, 11, 33, 1, 34, 35, 36, 37, 38, 39, 40, 41, 42, 43, 44, 45, 46, 47, 48, 49, 50, 51, 52, 53, 54, 55, 56, 57, 58, 59, 60, 61, 62, 63, 64, 65, 66, 67, 68, 69, 70, 71, 72, 73, 74, 75, 76] (by decide +kernel) (by decide +kernel)
set_option maxRecDepth 20000 in
theorem gX7_took_X7_rests : GoodIn wsX7_took (wsV RX7 207 RX7 yX7_rests wsX7_rests) := goodIn_app (goodIn_of _ (by decide +kernel)) ggX7_took_X7_rests
set_option maxRecDepth 20000 in
theorem ggX7_isAsked_X7_isNode : GoodIn wsX7_isAsked wsX7_isNode := goodIn_r _ [6, 7, 8, 5, 9] (by decide +kernel) (by decide +kernel)
set_option maxRecDepth 20000 in
theorem gX7_isAsked_X7_isNode : GoodIn wsX7_isAsked (va_wsS RX7 124 yX7_isNode wsX7_isNode) := goodIn_app (goodIn_of _ (by decide +kernel)) ggX7_isAsked_X7_isNode
set_option maxRecDepth 20000 in
theorem ggX7_isAsked_X7_isFrame : GoodIn wsX7_isAsked wsX7_isFrame := goodIn_r _ [13, 14, 7, 8, 5, 9, 15, 16, 17, 18, 19, 20, 21, 22, 23, 24, 25, 26, 27, 28, 29, 30, 31, 32, 33, 34, 35, 36, 37, 38, 39, 40, 41, 42, 43, 44, 45, 46, 47, 48, 49, 50, 51, 52, 53, 54, 55, 56] (by decide +kernel) (by decide +kernel)
set_option maxRecDepth 20000 in
theorem gX7_isAsked_X7_isFrame : GoodIn wsX7_isAsked (wsV RX7 131 RX7 yX7_isFrame wsX7_isFrame) := goodIn_app (goodIn_of _ (by decide +kernel)) ggX7_isAsked_X7_isFrame
set_option maxRecDepth 20000 in
theorem ggX7_byteAt_X7_isAsked : GoodIn wsX7_byteAt wsX7_isAsked := goodIn_r _ [10, 3, 11, 12, 13, 9, 14, 15, 16, 17, 18, 19, 20, 21, 22, 23, 24, 25, 26, 27, 28, 29, 30, 31, 32, 33, 34, 35, 36, 37, 38, 39, 40, 41, 42, 43, 44, 45, 46, 47, 48, 49, 50, 51, 52, 53, 54, 55, 56, 57, 58, 59, 60, 61, 62, 63, 64] (by decide +kernel) (by decide +kernel)
set_option maxRecDepth 20000 in
theorem gX7_byteAt_X7_isAsked : GoodIn wsX7_byteAt (wsV RX7 213 RX7 yX7_isAsked wsX7_isAsked) := goodIn_app (goodIn_of _ (by decide +kernel)) ggX7_byteAt_X7_isAsked
set_option maxRecDepth 20000 in
theorem ggX7_byteAt_X7_isIn : GoodIn wsX7_byteAt wsX7_isIn := goodIn_r _ [17] (by decide +kernel) (by decide +kernel)
set_option maxRecDepth 20000 in
theorem gX7_byteAt_X7_isIn : GoodIn wsX7_byteAt (va_wsS RX7 120 yX7_isIn wsX7_isIn) := goodIn_app (goodIn_of _ (by decide +kernel)) ggX7_byteAt_X7_isIn
set_option maxRecDepth 20000 in
theorem ggX7_taken_X7_isAsked : GoodIn wsX7_taken wsX7_isAsked := goodIn_r _ [8, 2, 9, 10, 11, 7, 12, 13, 14, 15, 16, 17, 18, 19, 20, 21, 22, 23, 24, 25, 26, 27, 28, 29, 30, 31, 32, 33, 34, 35, 36, 37, 38, 39, 40, 41, 42, 43, 44, 45, 46, 47, 48, 49, 50, 51, 52, 53, 54, 55, 56, 57, 58, 59, 60, 61, 62] (by decide +kernel) (by decide +kernel)
set_option maxRecDepth 20000 in
theorem gX7_taken_X7_isAsked : GoodIn wsX7_taken (wsV RX7 213 RX7 yX7_isAsked wsX7_isAsked) := goodIn_app (goodIn_of _ (by decide +kernel)) ggX7_taken_X7_isAsked
set_option maxRecDepth 20000 in
theorem ggX7_told_X7_isNode : GoodIn wsX7_told wsX7_isNode := goodIn_r _ [11, 12, 13, 10, 14] (by decide +kernel) (by decide +kernel)
set_option maxRecDepth 20000 in
theorem gX7_told_X7_isNode : GoodIn wsX7_told (va_wsS RX7 124 yX7_isNode wsX7_isNode) := goodIn_app (goodIn_of _ (by decide +kernel)) ggX7_told_X7_isNode
set_option maxRecDepth 20000 in
theorem ggX7_told_X7_isIn : GoodIn wsX7_told wsX7_isIn := goodIn_r _ [14] (by decide +kernel) (by decide +kernel)
set_option maxRecDepth 20000 in
theorem gX7_told_X7_isIn : GoodIn wsX7_told (va_wsS RX7 120 yX7_isIn wsX7_isIn) := goodIn_app (goodIn_of _ (by decide +kernel)) ggX7_told_X7_isIn
set_option maxRecDepth 20000 in
theorem ggX7_count_X7_isIn : GoodIn wsX7_count wsX7_isIn := goodIn_r _ [9] (by decide +kernel) (by decide +kernel)
set_option maxRecDepth 20000 in
theorem gX7_count_X7_isIn : GoodIn wsX7_count (va_wsS RX7 120 yX7_isIn wsX7_isIn) := goodIn_app (goodIn_of _ (by decide +kernel)) ggX7_count_X7_isIn
set_option maxRecDepth 20000 in
theorem ggX7_line_X7_isIn : GoodIn wsX7_line wsX7_isIn := goodIn_r _ [7] (by decide +kernel) (by decide +kernel)
set_option maxRecDepth 20000 in
theorem gX7_line_X7_isIn : GoodIn wsX7_line (va_wsS RX7 120 yX7_isIn wsX7_isIn) := goodIn_app (goodIn_of _ (by decide +kernel)) ggX7_line_X7_isIn
set_option maxRecDepth 20000 in
theorem ggX7_checks_X7_isFrame : GoodIn wsX7_checks wsX7_isFrame := goodIn_r _ [8, 9, 10, 11, 7, 12, 24, 25, 26, 27, 28, 29, 30, 31, 32, 33, 34, 35, 36, 37, 38, 39, 40, 41, 42, 43, 44, 45, 46, 47, 48, 49, 50, 51, 52, 53, 54, 55, 56, 57, 58, 59, 60, 61, 62, 63, 64, 65] (by decide +kernel) (by decide +kernel)
set_option maxRecDepth 20000 in
theorem gX7_checks_X7_isFrame : GoodIn wsX7_checks (wsV RX7 131 RX7 yX7_isFrame wsX7_isFrame) := goodIn_app (goodIn_of _ (by decide +kernel)) ggX7_checks_X7_isFrame
set_option maxRecDepth 20000 in
theorem ggX7_checks_X7_pidOf : GoodIn wsX7_checks wsX7_pidOf := goodIn_r _ [15] (by decide +kernel) (by decide +kernel)
set_option maxRecDepth 20000 in
theorem gX7_checks_X7_pidOf : GoodIn wsX7_checks (va_wsS RX7 175 yX7_pidOf wsX7_pidOf) := goodIn_app (goodIn_of _ (by decide +kernel)) ggX7_checks_X7_pidOf
set_option maxRecDepth 20000 in
theorem ggX7_checks_X7_isEnhanced : GoodIn wsX7_checks wsX7_isEnhanced := goodIn_r _ [19, 20, 24, 25, 26, 27, 28, 29, 30, 31, 32, 33, 34, 35, 36, 37, 38, 39, 40, 41, 42, 43, 44, 45, 46, 47, 48, 49, 50, 51, 52, 53, 54, 55, 56, 57, 58, 59, 60, 61, 62, 63, 64, 65] (by decide +kernel) (by decide +kernel)
set_option maxRecDepth 20000 in
theorem gX7_checks_X7_isEnhanced : GoodIn wsX7_checks (wsV RX7 200 RX7 yX7_isEnhanced wsX7_isEnhanced) := goodIn_app (goodIn_of _ (by decide +kernel)) ggX7_checks_X7_isEnhanced
set_option maxRecDepth 20000 in
theorem ggX7_checks_X7_checksum : GoodIn wsX7_checks wsX7_checksum := goodIn_r _ [23] (by decide +kernel) (by decide +kernel)
set_option maxRecDepth 20000 in
theorem gX7_checks_X7_checksum : GoodIn wsX7_checks (va_wsS RX7 203 yX7_checksum wsX7_checksum) := goodIn_app (goodIn_of _ (by decide +kernel)) ggX7_checks_X7_checksum
