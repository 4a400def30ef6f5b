set_option maxRecDepth 20000 in
theorem ggX7_isFrame_X7_isIn : GoodIn wsX7_isFrame wsX7_isIn := goodIn_r _ [5] (by decide +kernel) (by decide +kernel)
set_option maxRecDepth 20000 in
theorem gX7_isFrame_X7_isIn : GoodIn wsX7_isFrame (va_wsS RX7 120 yX7_isIn wsX7_isIn) := goodIn_app (goodIn_of _ (by decide +kernel)) ggX7_isFrame_X7_isIn
set_option maxRecDepth 20000 in
theorem ggX7_isNode_X7_isIn : GoodIn wsX7_isNode wsX7_isIn := goodIn_r _ [4] (by decide +kernel) (by decide +kernel)
set_option maxRecDepth 20000 in
theorem gX7_isNode_X7_isIn : GoodIn wsX7_isNode (va_wsS RX7 120 yX7_isIn wsX7_isIn) := goodIn_app (goodIn_of _ (by decide +kernel)) ggX7_isNode_X7_isIn
set_option maxRecDepth 20000 in
theorem ggX7_frame_X7_isIn : GoodIn wsX7_frame wsX7_isIn := goodIn_r _ [13] (by decide +kernel) (by decide +kernel)
set_option maxRecDepth 20000 in
theorem gX7_frame_X7_isIn : GoodIn wsX7_frame (va_wsS RX7 120 yX7_isIn wsX7_isIn) := goodIn_app (goodIn_of _ (by decide +kernel)) ggX7_frame_X7_isIn
set_option maxRecDepth 20000 in
theorem ggX7_frame_X7_isNode : GoodIn wsX7_frame wsX7_isNode := goodIn_r _ [16, 10, 11, 12, 13] (by decide +kernel) (by decide +kernel)
set_option maxRecDepth 20000 in
theorem gX7_frame_X7_isNode : GoodIn wsX7_frame (va_wsS RX7 124 yX7_isNode wsX7_isNode) := goodIn_app (goodIn_of _ (by decide +kernel)) ggX7_frame_X7_isNode
set_option maxRecDepth 20000 in
theorem ggX7_listen_X7_isNode : GoodIn wsX7_listen wsX7_isNode := goodIn_r _ [9, 10, 11, 8, 12] (by decide +kernel) (by decide +kernel)
set_option maxRecDepth 20000 in
theorem gX7_listen_X7_isNode : GoodIn wsX7_listen (va_wsS RX7 124 yX7_isNode wsX7_isNode) := goodIn_app (goodIn_of _ (by decide +kernel)) ggX7_listen_X7_isNode
set_option maxRecDepth 20000 in
theorem ggX7_listen_X7_isFrame : GoodIn wsX7_listen wsX7_isFrame := goodIn_r _ [16, 17, 10, 11, 8, 12, 18, 19, 20, 21, 22, 23, 24, 25, 26, 27, 28, 29, 30, 31, 32, 33, 34, 35, 36, 37, 38, 39, 40, 41, 42, 43, 44, 45, 46, 47, 48, 49, 50, 51, 52, 53, 54, 55, 56, 57, 58, 59] (by decide +kernel) (by decide +kernel)
set_option maxRecDepth 20000 in
theorem gX7_listen_X7_isFrame : GoodIn wsX7_listen (wsV RX7 131 RX7 yX7_isFrame wsX7_isFrame) := goodIn_app (goodIn_of _ (by decide +kernel)) ggX7_listen_X7_isFrame
set_option maxRecDepth 20000 in
theorem ggX7_status_X7_isNode : GoodIn wsX7_status wsX7_isNode := goodIn_r _ [10, 11, 12, 9, 13] (by decide +kernel) (by decide +kernel)
set_option maxRecDepth 20000 in
theorem gX7_status_X7_isNode : GoodIn wsX7_status (va_wsS RX7 124 yX7_isNode wsX7_isNode) := goodIn_app (goodIn_of _ (by decide +kernel)) ggX7_status_X7_isNode
set_option maxRecDepth 20000 in
theorem ggX7_status_X7_isFrame : GoodIn wsX7_status wsX7_isFrame := goodIn_r _ [17, 18, 11, 12, 9, 13, 19, 20, 21, 22, 23, 24, 25, 26, 27, 28, 29, 30, 31, 32, 33, 34, 35, 36, 37, 38, 39, 40, 41, 42, 43, 44, 45, 46, 47, 48, 49, 50, 51, 52, 53, 54, 55, 56, 57, 58, 59, 60] (by decide +kernel) (by decide +kernel)
set_option maxRecDepth 20000 in
theorem gX7_status_X7_isFrame : GoodIn wsX7_status (wsV RX7 131 RX7 yX7_isFrame wsX7_isFrame) := goodIn_app (goodIn_of _ (by decide +kernel)) ggX7_status_X7_isFrame
set_option maxRecDepth 20000 in
theorem ggX7_status_X7_isIn : GoodIn wsX7_status wsX7_isIn := goodIn_r _ [13] (by decide +kernel) (by decide +kernel)
set_option maxRecDepth 20000 in
theorem gX7_status_X7_isIn : GoodIn wsX7_status (va_wsS RX7 120 yX7_isIn wsX7_isIn) := goodIn_app (goodIn_of _ (by decide +kernel)) ggX7_status_X7_isIn
set_option maxRecDepth 20000 in
theorem ggX7_space_X7_isNode : GoodIn wsX7_space wsX7_isNode := goodIn_r _ [6, 7, 8, 5, 9] (by decide +kernel) (by decide +kernel)
set_option maxRecDepth 20000 in
theorem gX7_space_X7_isNode : GoodIn wsX7_space (va_wsS RX7 124 yX7_isNode wsX7_isNode) := goodIn_app (goodIn_of _ (by decide +kernel)) ggX7_space_X7_isNode
set_option maxRecDepth 20000 in
theorem ggX7_space_X7_isIn : GoodIn wsX7_space wsX7_isIn := goodIn_r _ [9] (by decide +kernel) (by decide +kernel)
set_option maxRecDepth 20000 in
theorem gX7_space_X7_isIn : GoodIn wsX7_space (va_wsS RX7 120 yX7_isIn wsX7_isIn) := goodIn_app (goodIn_of _ (by decide +kernel)) ggX7_space_X7_isIn
set_option maxRecDepth 20000 in
theorem ggX7_slot_X7_isFrame : GoodIn wsX7_slot wsX7_isFrame := goodIn_r _ [10, 11, 12, 13, 9, 14, 15, 16, 17, 18, 19, 20, 21, 22, 23, 24, 25, 26, 27, 28, 29, 30, 31, 32, 33, 34, 35, 36, 37, 38, 39, 40, 41, 42, 43, 44, 45, 46, 47, 48, 49, 50, 51, 52, 53, 54, 55, 56] (by decide +kernel) (by decide +kernel)
set_option maxRecDepth 20000 in
theorem gX7_slot_X7_isFrame : GoodIn wsX7_slot (wsV RX7 131 RX7 yX7_isFrame wsX7_isFrame) := goodIn_app (goodIn_of _ (by decide +kernel)) ggX7_slot_X7_isFrame
set_option maxRecDepth 20000 in
theorem ggX7_slot_X7_isIn : GoodIn wsX7_slot wsX7_isIn := goodIn_r _ [14] (by decide +kernel) (by decide +kernel)
set_option maxRecDepth 20000 in
theorem gX7_slot_X7_isIn : GoodIn wsX7_slot (va_wsS RX7 120 yX7_isIn wsX7_isIn) := goodIn_app (goodIn_of _ (by decide +kernel)) ggX7_slot_X7_isIn
set_option maxRecDepth 20000 in
theorem ggX7_write_X7_isFrame : GoodIn wsX7_write wsX7_isFrame := goodIn_r _ [8, 9, 10, 11, 7, 12, 13, 14, 15, 16, 17, 18, 19, 20, 21, 22, 23, 24, 25, 26, 27, 28, 29, 30, 31, 32, 33, 34, 35, 36, 37, 38, 39, 40, 41, 42, 43, 44, 45, 46, 47, 48, 49, 50, 51, 52, 53, 54] (by decide +kernel) (by decide +kernel)
set_option maxRecDepth 20000 in
theorem gX7_write_X7_isFrame : GoodIn wsX7_write (wsV RX7 131 RX7 yX7_isFrame wsX7_isFrame) := goodIn_app (goodIn_of _ (by decide +kernel)) ggX7_write_X7_isFrame
set_option maxRecDepth 20000 in
theorem ggX7_write_X7_isIn : GoodIn wsX7_write wsX7_isIn := goodIn_r _ [12] (by decide +kernel) (by decide +kernel)
set_option maxRecDepth 20000 in
theorem gX7_write_X7_isIn : GoodIn wsX7_write (va_wsS RX7 120 yX7_isIn wsX7_isIn) := goodIn_app (goodIn_of _ (by decide +kernel)) ggX7_write_X7_isIn
set_option maxRecDepth 20000 in
theorem ggX7_disturb_X7_isIn : GoodIn wsX7_disturb wsX7_isIn := goodIn_r _ [9] (by decide +kernel) (by decide +kernel)
set_option maxRecDepth 20000 in
theorem gX7_disturb_X7_isIn : GoodIn wsX7_disturb (va_wsS RX7 120 yX7_isIn wsX7_isIn) := goodIn_app (goodIn_of _ (by decide +kernel)) ggX7_disturb_X7_isIn
set_option maxRecDepth 20000 in
theorem ggX7_wake_X7_isNode : GoodIn wsX7_wake wsX7_isNode := goodIn_r _ [6, 7, 8, 5, 9] (by decide +kernel) (by decide +kernel)
set_option maxRecDepth 20000 in
theorem gX7_wake_X7_isNode : GoodIn wsX7_wake (va_wsS RX7 124 yX7_isNode wsX7_isNode) := goodIn_app (goodIn_of _ (by decide +kernel)) ggX7_wake_X7_isNode
set_option maxRecDepth 20000 in
theorem ggX7_run_X7_isIn : GoodIn wsX7_run wsX7_isIn := goodIn_r _ [7] (by decide +kernel) (by decide +kernel)
set_option maxRecDepth 20000 in
theorem gX7_run_X7_isIn : GoodIn wsX7_run (va_wsS RX7 120 yX7_isIn wsX7_isIn) := goodIn_app (goodIn_of _ (by decide +kernel)) ggX7_run_X7_isIn
set_option maxRecDepth 20000 in
theorem ggX7_run_X7_bitTime : GoodIn wsX7_run wsX7_bitTime := goodIn_r _ [11, 12, 1, 13, 14, 15, 16, 17, 18, 19, 20, 21, 22, 23, 6, 24, 25, 26, 27, 28, 29, 30, 31, 32, 33, 34, 35, 36, 37, 38, 39, 40, 41, 42, 43, 44, 45, 46, 47, 48, 49, 50, 51, 52, 53, 54, 55, 56, 57, 58, 59, 60, 61, 62, 63, 64, 65, 66, 67, 68, 69, 70, 71, 72, 73, 74, 75, 76, 77, 78, 79, 80, 81, 82, 83, 84, 85, 86, 87, 88, 89, 90, 91, 92, 4, 5, 7, 93, 94, 95, 96, 97, 98, 99, 100, 101, 102, 103, 104, 105, 106, 107, 108, 109, 110, 111, 112, 113, 114, 115, 116, 117, 118, 119, 120, 121, 122, 123, 124, 125, 126, 127, 128, 129, 130, 131, 132, 133, 134, 135, 136, 137, 138, 139, 140, 141, 142, 143, 144, 145, 146, 147, 148, 149, 150, 151, 152, 153, 154, 155, 156, 157, 158, 159, 160, 161, 162, 163, 164, 165, 166] (by decide +kernel) (by decide +kernel)
set_option maxRecDepth 20000 in
theorem gX7_run_X7_bitTime : GoodIn wsX7_run (wsV RX7 141 RX7 yX7_bitTime wsX7_bitTime) := goodIn_app (goodIn_of _ (by decide +kernel)) ggX7_run_X7_bitTime
set_option maxRecDepth 20000 in
theorem ggX7_bitTime_X7_schedule : GoodIn wsX7_bitTime wsX7_schedule := goodIn_r _ [15, 5, 16, 1, 2, 17, 3, 18, 19, 20, 21, 14, 22, 23, 119, 120, 121, 122, 123, 124, 125, 126, 127, 128, 129, 130, 131, 132, 133, 134, 135, 136, 137, 138, 139, 140, 141, 142, 143, 144, 145, 146, 147, 148, 149, 150, 151, 152, 153, 154, 155, 156, 157, 158, 159, 160] (by decide +kernel) (by decide +kernel)
set_option maxRecDepth 20000 in
theorem gX7_bitTime_X7_schedule : GoodIn wsX7_bitTime (wsV RX7 144 RX7 yX7_schedule wsX7_schedule) := goodIn_app (goodIn_of _ (by decide +kernel)) ggX7_bitTime_X7_schedule
set_option maxRecDepth 20000 in
theorem ggX7_bitTime_X7_headerBit : GoodIn wsX7_bitTime wsX7_headerBit := goodIn_r _ [27, 28, 1, 29, 30, 14, 31, 32, 33, 34, 119, 120, 121, 122, 123, 124, 125, 126, 127, 128, 129, 130, 131, 132, 133, 134, 135, 136, 137, 138, 139, 140, 141, 142, 143, 144, 145, 146, 147, 148, 149, 150, 151, 152, 153, 154, 155, 156, 157, 158, 159, 160] (by decide +kernel) (by decide +kernel)
set_option maxRecDepth 20000 in
theorem gX7_bitTime_X7_headerBit : GoodIn wsX7_bitTime (wsV RX7 150 RX7 yX7_headerBit wsX7_headerBit) := goodIn_app (goodIn_of _ (by decide +kernel)) ggX7_bitTime_X7_headerBit
set_option maxRecDepth 20000 in
theorem ggX7_bitTime_X7_sayingBit : GoodIn wsX7_bitTime wsX7_sayingBit := goodIn_r _ [38, 39, 40, 29, 30, 14, 31, 119, 120, 121, 122, 123, 124, 125, 126, 127, 128, 129, 130, 131, 132, 133, 134, 135, 136, 137, 138, 139, 140, 141, 142, 143, 144, 145, 146, 147, 148, 149, 150, 151, 152, 153, 154, 155, 156, 157, 158, 159, 160] (by decide +kernel) (by decide +kernel)
set_option maxRecDepth 20000 in
theorem gX7_bitTime_X7_sayingBit : GoodIn wsX7_bitTime (wsV RX7 154 RX7 yX7_sayingBit wsX7_sayingBit) := goodIn_app (goodIn_of _ (by decide +kernel)) ggX7_bitTime_X7_sayingBit
set_option maxRecDepth 20000 in
theorem ggX7_bitTime_X7_look : GoodIn wsX7_bitTime wsX7_look := goodIn_r _ [44, 45, 5, 46, 2, 17, 47, 48, 49, 50, 51, 14, 52, 53, 54, 55, 56, 57, 58, 59, 60, 61, 62, 63, 64, 32, 33, 34, 65, 66, 67, 68, 69, 70, 71, 6, 72, 40, 73, 39, 74, 75, 76, 77, 78, 79, 80, 81, 82, 83, 84, 85, 86, 87, 88, 89, 90, 91, 92, 93, 94, 95, 96, 97, 98, 99, 35, 36, 37, 38, 29, 30, 31, 100, 101, 102, 103, 104, 105, 106, 107, 1, 108, 109, 110, 111, 112, 113, 114, 115, 116, 117, 118, 119, 120, 121, 122, 123, 124, 125, 126, 127, 128, 129, 130, 131, 132, 133, 134, 135, 136, 137, 138, 139, 140, 141, 142, 143, 144, 145, 146, 147, 148, 149, 150, 151, 152, 153, 154, 155, 156, 157, 158, 159, 160] (by decide +kernel) (by decide +kernel)
set_option maxRecDepth 20000 in
theorem gX7_bitTime_X7_look : GoodIn wsX7_bitTime (wsV RX7 157 RX7 yX7_look wsX7_look) := goodIn_app (goodIn_of _ (by decide +kernel)) ggX7_bitTime_X7_look
set_option maxRecDepth 20000 in
theorem ggX7_schedule_X7_begin : GoodIn wsX7_schedule wsX7_begin := goodIn_r _ [12, 3, 4, 6, 13, 14, 15, 16, 17, 18, 19, 20, 21, 22, 23, 24, 25, 26, 27, 28, 29, 30, 31, 32, 33, 34, 35, 36, 37, 38, 39, 40, 41, 42, 43, 44, 45, 46, 47, 48, 49, 50, 51, 52, 53, 54, 55] (by decide +kernel) (by decide +kernel)
set_option maxRecDepth 20000 in
theorem gX7_schedule_X7_begin : GoodIn wsX7_schedule (wsV RX7 164 RX7 yX7_begin wsX7_begin) := goodIn_app (goodIn_of _ (by decide +kernel)) ggX7_schedule_X7_begin
