set_option maxRecDepth 20000 in
theorem ggX7_headerBit_X7_characterBit : GoodIn wsX7_headerBit wsX7_characterBit := goodIn_r _ [6] (by decide +kernel) (by decide +kernel)
set_option maxRecDepth 20000 in
theorem gX7_headerBit_X7_characterBit : GoodIn wsX7_headerBit (va_wsS RX7 171 yX7_characterBit wsX7_characterBit) := goodIn_app (goodIn_of _ (by decide +kernel)) ggX7_headerBit_X7_characterBit
set_option maxRecDepth 20000 in
theorem ggX7_headerBit_X7_pidOf : GoodIn wsX7_headerBit wsX7_pidOf := goodIn_r _ [9] (by decide +kernel) (by decide +kernel)
set_option maxRecDepth 20000 in
theorem gX7_headerBit_X7_pidOf : GoodIn wsX7_headerBit (va_wsS RX7 175 yX7_pidOf wsX7_pidOf) := goodIn_app (goodIn_of _ (by decide +kernel)) ggX7_headerBit_X7_pidOf
set_option maxRecDepth 20000 in
theorem ggX7_sayingBit_X7_characterBit : GoodIn wsX7_sayingBit wsX7_characterBit := goodIn_r _ [6] (by decide +kernel) (by decide +kernel)
set_option maxRecDepth 20000 in
theorem gX7_sayingBit_X7_characterBit : GoodIn wsX7_sayingBit (va_wsS RX7 171 yX7_characterBit wsX7_characterBit) := goodIn_app (goodIn_of _ (by decide +kernel)) ggX7_sayingBit_X7_characterBit
set_option maxRecDepth 20000 in
theorem ggX7_look_X7_error : GoodIn wsX7_look wsX7_error := goodIn_r _ [12, 13, 14, 93, 94, 95, 96, 97, 98, 99, 100, 101, 102, 103, 104, 105, 106, 107, 108, 109, 110, 111, 112, 113, 114, 115, 116, 117, 118, 119, 120, 121, 122, 123, 124, 125, 126, 127, 128, 129, 130, 131, 132, 133, 134] (by decide +kernel) (by decide +kernel)
set_option maxRecDepth 20000 in
theorem gX7_look_X7_error : GoodIn wsX7_look (wsV RX7 178 RX7 yX7_error wsX7_error) := goodIn_app (goodIn_of _ (by decide +kernel)) ggX7_look_X7_error
set_option maxRecDepth 20000 in
theorem ggX7_look_X7_header : GoodIn wsX7_look wsX7_header := goodIn_r _ [18, 19, 6, 20, 2, 21, 22, 23, 11, 24, 7, 25, 26, 27, 28, 29, 30, 31, 32, 33, 34, 35, 36, 37, 38, 39, 40, 41, 42, 43, 13, 44, 45, 46, 47, 48, 49, 50, 51, 52, 53, 54, 55, 56, 57, 58, 59, 60, 93, 94, 95, 96, 97, 98, 99, 100, 101, 102, 103, 104, 105, 106, 107, 108, 109, 110, 111, 112, 113, 114, 115, 116, 117, 118, 119, 120, 121, 122, 123, 124, 125, 126, 127, 128, 129, 130, 131, 132, 133, 134] (by decide +kernel) (by decide +kernel)
set_option maxRecDepth 20000 in
theorem gX7_look_X7_header : GoodIn wsX7_look (wsV RX7 181 RX7 yX7_header wsX7_header) := goodIn_app (goodIn_of _ (by decide +kernel)) ggX7_look_X7_header
set_option maxRecDepth 20000 in
theorem ggX7_look_X7_saying : GoodIn wsX7_look wsX7_saying := goodIn_r _ [64, 35, 2, 37, 32, 38, 65, 13, 41, 66, 67, 68, 11, 69, 39, 70, 71, 72, 8, 9, 10, 12, 14, 73, 74, 75, 76, 77, 78, 79, 80, 81, 93, 94, 95, 96, 97, 98, 99, 100, 101, 102, 103, 104, 105, 106, 107, 108, 109, 110, 111, 112, 113, 114, 115, 116, 117, 118, 119, 120, 121, 122, 123, 124, 125, 126, 127, 128, 129, 130, 131, 132, 133, 134] (by decide +kernel) (by decide +kernel)
set_option maxRecDepth 20000 in
theorem gX7_look_X7_saying : GoodIn wsX7_look (wsV RX7 184 RX7 yX7_saying wsX7_saying) := goodIn_app (goodIn_of _ (by decide +kernel)) ggX7_look_X7_saying
set_option maxRecDepth 20000 in
theorem ggX7_look_X7_taking : GoodIn wsX7_look wsX7_taking := goodIn_r _ [85, 32, 38, 33, 39, 6, 19, 2, 21, 22, 23, 11, 24, 7, 8, 9, 10, 12, 13, 14, 86, 87, 88, 89, 90, 44, 91, 92, 53, 54, 55, 56, 57, 25, 26, 27, 58, 59, 60, 73, 74, 75, 76, 77, 78, 79, 80, 81, 93, 94, 95, 96, 97, 98, 99, 100, 101, 102, 103, 104, 105, 106, 107, 108, 109, 110, 111, 112, 113, 114, 115, 116, 117, 118, 119, 120, 121, 122, 123, 124, 125, 126, 127, 128, 129, 130, 131, 132, 133, 134] (by decide +kernel) (by decide +kernel)
set_option maxRecDepth 20000 in
theorem gX7_look_X7_taking : GoodIn wsX7_look (wsV RX7 187 RX7 yX7_taking wsX7_taking) := goodIn_app (goodIn_of _ (by decide +kernel)) ggX7_look_X7_taking
set_option maxRecDepth 20000 in
theorem ggX7_look_X7_sleep : GoodIn wsX7_look wsX7_sleep := goodIn_r _ [80, 2, 81, 93, 94, 95, 96, 97, 98, 99, 100, 101, 102, 103, 104, 105, 106, 107, 108, 109, 110, 111, 112, 113, 114, 115, 116, 117, 118, 119, 120, 121, 122, 123, 124, 125, 126, 127, 128, 129, 130, 131, 132, 133, 134] (by decide +kernel) (by decide +kernel)
set_option maxRecDepth 20000 in
theorem gX7_look_X7_sleep : GoodIn wsX7_look (wsV RX7 190 RX7 yX7_sleep wsX7_sleep) := goodIn_app (goodIn_of _ (by decide +kernel)) ggX7_look_X7_sleep
set_option maxRecDepth 20000 in
theorem ggX7_header_X7_collects : GoodIn wsX7_header wsX7_collects := goodIn_r _ [9, 10, 1, 48, 49, 50, 51, 52, 53, 54, 55, 56, 57, 58, 59, 60, 61, 62, 63, 64, 65, 66, 67, 68, 69, 70, 71, 72, 73, 74, 75, 76, 77, 78, 79, 80, 81, 82, 83, 84, 85, 86, 87, 88, 89] (by decide +kernel) (by decide +kernel)
set_option maxRecDepth 20000 in
theorem gX7_header_X7_collects : GoodIn wsX7_header (wsV RX7 193 RX7 yX7_collects wsX7_collects) := goodIn_app (goodIn_of _ (by decide +kernel)) ggX7_header_X7_collects
set_option maxRecDepth 20000 in
theorem ggX7_header_X7_pidOf : GoodIn wsX7_header wsX7_pidOf := goodIn_r _ [13] (by decide +kernel) (by decide +kernel)
set_option maxRecDepth 20000 in
theorem gX7_header_X7_pidOf : GoodIn wsX7_header (va_wsS RX7 175 yX7_pidOf wsX7_pidOf) := goodIn_app (goodIn_of _ (by decide +kernel)) ggX7_header_X7_pidOf
set_option maxRecDepth 20000 in
theorem ggX7_header_X7_respond : GoodIn wsX7_header wsX7_respond := goodIn_r _ [17, 4, 18, 2, 19, 20, 21, 22, 23, 24, 25, 26, 27, 28, 29, 30, 31, 32, 33, 34, 8, 35, 36, 37, 38, 39, 40, 41, 42, 43, 44, 11, 12, 13, 45, 46, 47, 48, 49, 50, 51, 52, 53, 54, 55, 56, 57, 58, 59, 60, 61, 62, 63, 64, 65, 66, 67, 68, 69, 70, 71, 72, 73, 74, 75, 76, 77, 78, 79, 80, 81, 82, 83, 84, 85, 86, 87, 88, 89] (by decide +kernel) (by decide +kernel)
set_option maxRecDepth 20000 in
theorem gX7_header_X7_respond : GoodIn wsX7_header (wsV RX7 197 RX7 yX7_respond wsX7_respond) := goodIn_app (goodIn_of _ (by decide +kernel)) ggX7_header_X7_respond
set_option maxRecDepth 20000 in
theorem ggX7_respond_X7_isFrame : GoodIn wsX7_respond wsX7_isFrame := goodIn_r _ [21, 22, 23, 24, 20, 25, 37, 38, 39, 40, 41, 42, 43, 44, 45, 46, 47, 48, 49, 50, 51, 52, 53, 54, 55, 56, 57, 58, 59, 60, 61, 62, 63, 64, 65, 66, 67, 68, 69, 70, 71, 72, 73, 74, 75, 76, 77, 78] (by decide +kernel) (by decide +kernel)
set_option maxRecDepth 20000 in
theorem gX7_respond_X7_isFrame : GoodIn wsX7_respond (wsV RX7 131 RX7 yX7_isFrame wsX7_isFrame) := goodIn_app (goodIn_of _ (by decide +kernel)) ggX7_respond_X7_isFrame
set_option maxRecDepth 20000 in
theorem ggX7_respond_X7_isEnhanced : GoodIn wsX7_respond wsX7_isEnhanced := goodIn_r _ [29, 30, 37, 38, 39, 40, 41, 42, 43, 44, 45, 46, 47, 48, 49, 50, 51, 52, 53, 54, 55, 56, 57, 58, 59, 60, 61, 62, 63, 64, 65, 66, 67, 68, 69, 70, 71, 72, 73, 74, 75, 76, 77, 78] (by decide +kernel) (by decide +kernel)
set_option maxRecDepth 20000 in
theorem gX7_respond_X7_isEnhanced : GoodIn wsX7_respond (wsV RX7 200 RX7 yX7_isEnhanced wsX7_isEnhanced) := goodIn_app (goodIn_of _ (by decide +kernel)) ggX7_respond_X7_isEnhanced
set_option maxRecDepth 20000 in
theorem ggX7_respond_X7_pidOf : GoodIn wsX7_respond wsX7_pidOf := goodIn_r _ [33] (by decide +kernel) (by decide +kernel)
set_option maxRecDepth 20000 in
theorem gX7_respond_X7_pidOf : GoodIn wsX7_respond (va_wsS RX7 175 yX7_pidOf wsX7_pidOf) := goodIn_app (goodIn_of _ (by decide +kernel)) ggX7_respond_X7_pidOf
set_option maxRecDepth 20000 in
theorem ggX7_respond_X7_checksum : GoodIn wsX7_respond wsX7_checksum := goodIn_r _ [36] (by decide +kernel) (by decide +kernel)
set_option maxRecDepth 20000 in
theorem gX7_respond_X7_checksum : GoodIn wsX7_respond (va_wsS RX7 203 yX7_checksum wsX7_checksum) := goodIn_app (goodIn_of _ (by decide +kernel)) ggX7_respond_X7_checksum
set_option maxRecDepth 20000 in
theorem ggX7_saying_X7_sayingBit : GoodIn wsX7_saying wsX7_sayingBit := goodIn_r _ [13, 14, 3, 15, 16, 12, 17, 32, 33, 34, 35, 36, 37, 38, 39, 40, 41, 42, 43, 44, 45, 46, 47, 48, 49, 50, 51, 52, 53, 54, 55, 56, 57, 58, 59, 60, 61, 62, 63, 64, 65, 66, 67, 68, 69, 70, 71, 72, 73] (by decide +kernel) (by decide +kernel)
set_option maxRecDepth 20000 in
theorem gX7_saying_X7_sayingBit : GoodIn wsX7_saying (wsV RX7 154 RX7 yX7_sayingBit wsX7_sayingBit) := goodIn_app (goodIn_of _ (by decide +kernel)) ggX7_saying_X7_sayingBit
set_option maxRecDepth 20000 in
theorem ggX7_saying_X7_error : GoodIn wsX7_saying wsX7_error := goodIn_r _ [21, 7, 22, 32, 33, 34, 35, 36, 37, 38, 39, 40, 41, 42, 43, 44, 45, 46, 47, 48, 49, 50, 51, 52, 53, 54, 55, 56, 57, 58, 59, 60, 61, 62, 63, 64, 65, 66, 67, 68, 69, 70, 71, 72, 73] (by decide +kernel) (by decide +kernel)
set_option maxRecDepth 20000 in
theorem gX7_saying_X7_error : GoodIn wsX7_saying (wsV RX7 178 RX7 yX7_error wsX7_error) := goodIn_app (goodIn_of _ (by decide +kernel)) ggX7_saying_X7_error
set_option maxRecDepth 20000 in
theorem ggX7_saying_X7_rests : GoodIn wsX7_saying wsX7_rests := goodIn_r _ [26, 14, 27, 28, 29, 12, 30, 2, 31, 32, 33, 34, 35, 36, 37, 38, 39, 40, 41, 42, 43, 44, 45, 46, 47, 48, 49, 50, 51, 52, 53, 54, 55, 56, 57, 58, 59, 60, 61, 62, 63, 64, 65, 66, 67, 68, 69, 70, 71, 72, 73] (by decide +kernel) (by decide +kernel)
set_option maxRecDepth 20000 in
theorem gX7_saying_X7_rests : GoodIn wsX7_saying (wsV RX7 207 RX7 yX7_rests wsX7_rests) := goodIn_app (goodIn_of _ (by decide +kernel)) ggX7_saying_X7_rests
set_option maxRecDepth 20000 in
theorem ggX7_rests_X7_sleep : GoodIn wsX7_rests wsX7_sleep := goodIn_r _ [6, 7, 8, 9, 10, 11, 12, 13, 14, 15, 16, 17, 18, 19, 20, 21, 22, 23, 24, 25, 26, 27, 28, 29, 30, 31, 32, 33, 34, 35, 36, 37, 38, 39, 40, 41, 42, 43, 44, 45, 46, 47, 48, 49, 50] (by decide +kernel) (by decide +kernel)
set_option maxRecDepth 20000 in
theorem gX7_rests_X7_sleep : GoodIn wsX7_rests (wsV RX7 190 RX7 yX7_sleep wsX7_sleep) := goodIn_app (goodIn_of _ (by decide +kernel)) ggX7_rests_X7_sleep
set_option maxRecDepth 20000 in
theorem ggX7_taking_X7_collects : GoodIn wsX7_taking wsX7_collects := goodIn_r _ [12, 13, 6, 48, 49, 50, 51, 52, 53, 54, 55, 56, 57, 58, 59, 60, 61, 62, 63, 64, 65, 66, 67, 68, 69, 70, 71, 72, 73, 74, 75, 76, 77, 78, 79, 80, 81, 82, 83, 84, 85, 86, 87, 88, 89] (by decide +kernel) (by decide +kernel)
set_option maxRecDepth 20000 in
theorem gX7_taking_X7_collects : GoodIn wsX7_taking (wsV RX7 193 RX7 yX7_collects wsX7_collects) := goodIn_app (goodIn_of _ (by decide +kernel)) ggX7_taking_X7_collects
set_option maxRecDepth 20000 in
theorem ggX7_taking_X7_error : GoodIn wsX7_taking wsX7_error := goodIn_r _ [17, 18, 19, 48, 49, 50, 51, 52, 53, 54, 55, 56, 57, 58, 59, 60, 61, 62, 63, 64, 65, 66, 67, 68, 69, 70, 71, 72, 73, 74, 75, 76, 77, 78, 79, 80, 81, 82, 83, 84, 85, 86, 87, 88, 89] (by decide +kernel) (by decide +kernel)
set_option maxRecDepth 20000 in
theorem gX7_taking_X7_error : GoodIn wsX7_taking (wsV RX7 178 RX7 yX7_error wsX7_error) := goodIn_app (goodIn_of _ (by decide +kernel)) ggX7_taking_X7_error
set_option maxRecDepth 20000 in
theorem ggX7_taking_X7_took : GoodIn wsX7_taking wsX7_took := goodIn_r _ [23, 7, 2, 4, 24, 25, 26, 27, 28, 29, 30, 11, 31, 32, 33, 34, 35, 36, 37, 38, 14, 15, 16, 17, 18, 19, 39, 40, 41, 42, 43, 44, 45, 46, 47, 48, 49, 50, 51, 52, 53, 54, 55, 56, 57, 58, 59, 60, 61, 62, 63, 64, 65, 66, 67, 68, 69, 70, 71, 72, 73, 74, 75, 76, 77, 78, 79, 80, 81, 82, 83, 84, 85, 86, 87, 88, 89] (by decide +kernel) (by decide +kernel)
set_option maxRecDepth 20000 in
theorem gX7_taking_X7_took : GoodIn wsX7_taking (wsV RX7 210 RX7 yX7_took wsX7_took) := goodIn_app (goodIn_of _ (by decide +kernel)) ggX7_taking_X7_took
set_option maxRecDepth 20000 in
theorem ggX7_took_X7_isEnhanced : GoodIn wsX7_took wsX7_isEnhanced := goodIn_r _ [12, 13, 35, 36, 37, 38, 39, 40, 41, 42, 43, 44, 45, 46, 47, 48, 49, 50, 51, 52, 53, 54, 55, 56, 57, 58, 59, 60, 61, 62, 63, 64, 65, 66, 67, 68, 69, 70, 71, 72, 73, 74, 75, 76] (by decide +kernel) (by decide +kernel)
set_option maxRecDepth 20000 in
theorem gX7_took_X7_isEnhanced : GoodIn wsX7_took (wsV RX7 200 RX7 yX7_isEnhanced wsX7_isEnhanced) := goodIn_app (goodIn_of _ (by decide +kernel)) ggX7_took_X7_isEnhanced
set_option maxRecDepth 20000 in
theorem ggX7_took_X7_pidOf : GoodIn wsX7_took wsX7_pidOf := goodIn_r _ [16] (by decide +kernel) (by decide +kernel)
set_option maxRecDepth 20000 in
theorem gX7_took_X7_pidOf : GoodIn wsX7_took (va_wsS RX7 175 yX7_pidOf wsX7_pidOf) := goodIn_app (goodIn_of _ (by decide +kernel)) ggX7_took_X7_pidOf
