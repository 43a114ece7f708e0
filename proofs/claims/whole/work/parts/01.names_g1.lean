set_option maxRecDepth 20000 in
theorem ggX2_compareRegisters_X2_order : GoodIn wsX2_compareRegisters wsX2_order := goodIn_r _ [19] (by decide +kernel) (by decide +kernel)
set_option maxRecDepth 20000 in
theorem gX2_compareRegisters_X2_order : GoodIn wsX2_compareRegisters (va_wsS RX2 120 yX2_order wsX2_order) := goodIn_app (goodIn_of _ (by decide +kernel)) ggX2_compareRegisters_X2_order
set_option maxRecDepth 20000 in
theorem ggX2_compareRegisters_X5_offsetOf : GoodIn wsX2_compareRegisters wsX5_offsetOf := goodIn_r _ [23, 24, 28, 29, 30, 31, 32, 33, 34, 35, 36, 37] (by decide +kernel) (by decide +kernel)
set_option maxRecDepth 20000 in
theorem gX2_compareRegisters_X5_offsetOf : GoodIn wsX2_compareRegisters (wsV RX2 62 RX5 yX5_offsetOf wsX5_offsetOf) := goodIn_app (goodIn_of _ (by decide +kernel)) ggX2_compareRegisters_X5_offsetOf
set_option maxRecDepth 20000 in
theorem ggX2_compareInto_X7_isRegister : GoodIn wsX2_compareInto wsX7_isRegister := goodIn_r _ [4] (by decide +kernel) (by decide +kernel)
set_option maxRecDepth 20000 in
theorem gX2_compareInto_X7_isRegister_n23 : GoodIn wsX2_compareInto (wsX7_isRegister) := ggX2_compareInto_X7_isRegister
set_option maxRecDepth 20000 in
theorem ggX2_compareInto_X2_compareRegisters : GoodIn wsX2_compareInto wsX2_compareRegisters := goodIn_r _ [9, 1, 2, 3, 4, 10, 11, 12, 13, 14, 15, 16, 17, 18, 19, 20, 21, 22, 8, 23, 24, 25, 26, 27, 28, 37, 38, 39, 40, 41, 42, 43, 44, 45, 46, 47, 48, 49] (by decide +kernel) (by decide +kernel)
set_option maxRecDepth 20000 in
theorem gX2_compareInto_X2_compareRegisters : GoodIn wsX2_compareInto (wsV RX2 123 RX2 yX2_compareRegisters wsX2_compareRegisters) := goodIn_app (goodIn_of _ (by decide +kernel)) ggX2_compareInto_X2_compareRegisters
set_option maxRecDepth 20000 in
theorem ggX2_compareInto_X5_fillWithNumber : GoodIn wsX2_compareInto wsX5_fillWithNumber := goodIn_r _ [32, 33, 34, 35, 13, 36, 15, 20, 28, 40, 41, 42, 43, 44, 45, 46, 47, 48, 49] (by decide +kernel) (by decide +kernel)
set_option maxRecDepth 20000 in
theorem gX2_compareInto_X5_fillWithNumber : GoodIn wsX2_compareInto (wsV RX2 55 RX5 yX5_fillWithNumber wsX5_fillWithNumber) := goodIn_app (goodIn_of _ (by decide +kernel)) ggX2_compareInto_X5_fillWithNumber
set_option maxRecDepth 20000 in
theorem ggX2_jumps_X7_isRegister : GoodIn wsX2_jumps wsX7_isRegister := goodIn_r _ [4] (by decide +kernel) (by decide +kernel)
set_option maxRecDepth 20000 in
theorem gX2_jumps_X7_isRegister_n23 : GoodIn wsX2_jumps (wsX7_isRegister) := ggX2_jumps_X7_isRegister
set_option maxRecDepth 20000 in
theorem ggX2_jumps_X5_kindOf : GoodIn wsX2_jumps wsX5_kindOf := goodIn_r _ [9, 10, 19, 20, 21, 22, 23, 24, 25, 26, 27, 28] (by decide +kernel) (by decide +kernel)
set_option maxRecDepth 20000 in
theorem gX2_jumps_X5_kindOf : GoodIn wsX2_jumps (wsV RX2 59 RX5 yX5_kindOf wsX5_kindOf) := goodIn_app (goodIn_of _ (by decide +kernel)) ggX2_jumps_X5_kindOf
set_option maxRecDepth 20000 in
theorem ggX2_jumps_X5_valueOf : GoodIn wsX2_jumps wsX5_valueOf := goodIn_r _ [14, 15, 19, 20, 21, 22, 23, 24, 25, 26, 27, 28] (by decide +kernel) (by decide +kernel)
set_option maxRecDepth 20000 in
theorem gX2_jumps_X5_valueOf : GoodIn wsX2_jumps (wsV RX2 45 RX5 yX5_valueOf wsX5_valueOf) := goodIn_app (goodIn_of _ (by decide +kernel)) ggX2_jumps_X5_valueOf
set_option maxRecDepth 20000 in
theorem ggX2_blitBytes_X7_isRegister : GoodIn wsX2_blitBytes wsX7_isRegister := goodIn_r _ [4] (by decide +kernel) (by decide +kernel)
set_option maxRecDepth 20000 in
theorem gX2_blitBytes_X7_isRegister_n23 : GoodIn wsX2_blitBytes (wsX7_isRegister) := ggX2_blitBytes_X7_isRegister
set_option maxRecDepth 20000 in
theorem ggX2_blitBytes_X2_faultForWriting : GoodIn wsX2_blitBytes wsX2_faultForWriting := goodIn_r _ [9, 1, 10, 11, 12, 8, 13, 14, 15, 16, 17, 18, 19, 20, 21, 22, 23, 24, 25, 26, 27, 28, 29, 30, 31, 32, 33, 34, 35, 36, 37, 38, 39, 40, 41, 42, 43, 44, 45, 46, 47, 48, 77, 78, 79, 80, 81, 82, 83, 84, 85, 86, 87, 88, 89] (by decide +kernel) (by decide +kernel)
set_option maxRecDepth 20000 in
theorem gX2_blitBytes_X2_faultForWriting : GoodIn wsX2_blitBytes (wsV RX2 90 RX2 yX2_faultForWriting wsX2_faultForWriting) := goodIn_app (goodIn_of _ (by decide +kernel)) ggX2_blitBytes_X2_faultForWriting
set_option maxRecDepth 20000 in
theorem ggX2_blitBytes_X2_faultForReading : GoodIn wsX2_blitBytes wsX2_faultForReading := goodIn_r _ [52, 10, 11, 12, 8, 13, 1, 14, 15, 16, 17, 18, 19, 20, 21, 22, 23, 24, 25, 26, 27, 28, 29, 35, 36, 37, 38, 39, 40, 41, 42, 43, 44, 45, 46, 47, 48, 77, 78, 79, 80, 81, 82, 83, 84, 85, 86, 87, 88, 89] (by decide +kernel) (by decide +kernel)
set_option maxRecDepth 20000 in
theorem gX2_blitBytes_X2_faultForReading : GoodIn wsX2_blitBytes (wsV RX2 105 RX2 yX2_faultForReading wsX2_faultForReading) := goodIn_app (goodIn_of _ (by decide +kernel)) ggX2_blitBytes_X2_faultForReading
set_option maxRecDepth 20000 in
theorem ggX2_blitBytes_X5_valueOf : GoodIn wsX2_blitBytes wsX5_valueOf := goodIn_r _ [23, 24, 80, 81, 82, 83, 84, 85, 86, 87, 88, 89] (by decide +kernel) (by decide +kernel)
set_option maxRecDepth 20000 in
theorem gX2_blitBytes_X5_valueOf : GoodIn wsX2_blitBytes (wsV RX2 45 RX5 yX5_valueOf wsX5_valueOf) := goodIn_app (goodIn_of _ (by decide +kernel)) ggX2_blitBytes_X5_valueOf
set_option maxRecDepth 20000 in
theorem ggX2_blitBytes_X5_offsetOf : GoodIn wsX2_blitBytes wsX5_offsetOf := goodIn_r _ [42, 43, 80, 81, 82, 83, 84, 85, 86, 87, 88, 89] (by decide +kernel) (by decide +kernel)
set_option maxRecDepth 20000 in
theorem gX2_blitBytes_X5_offsetOf : GoodIn wsX2_blitBytes (wsV RX2 62 RX5 yX5_offsetOf wsX5_offsetOf) := goodIn_app (goodIn_of _ (by decide +kernel)) ggX2_blitBytes_X5_offsetOf
set_option maxRecDepth 20000 in
theorem ggX2_blitBytes_X2_cutsPointer : GoodIn wsX2_blitBytes wsX2_cutsPointer := goodIn_r _ [56, 1, 57, 58, 59, 17, 60, 61, 62, 3, 63, 77, 78, 79, 80, 81, 82, 83, 84, 85, 86, 87, 88, 89] (by decide +kernel) (by decide +kernel)
set_option maxRecDepth 20000 in
theorem gX2_blitBytes_X2_cutsPointer : GoodIn wsX2_blitBytes (wsV RX2 126 RX2 yX2_cutsPointer wsX2_cutsPointer) := goodIn_app (goodIn_of _ (by decide +kernel)) ggX2_blitBytes_X2_cutsPointer
set_option maxRecDepth 20000 in
theorem ggX2_blitBytes_X2_carryBytes : GoodIn wsX2_blitBytes wsX2_carryBytes := goodIn_r _ [67, 68, 1, 20, 21, 22, 17, 23, 24, 39, 40, 41, 42, 43, 57, 58, 59, 60, 61, 69, 70, 71, 8, 72, 73, 74, 75, 76, 62, 3, 63, 77, 78, 79, 80, 81, 82, 83, 84, 85, 86, 87, 88, 89] (by decide +kernel) (by decide +kernel)
set_option maxRecDepth 20000 in
theorem gX2_blitBytes_X2_carryBytes : GoodIn wsX2_blitBytes (wsV RX2 130 RX2 yX2_carryBytes wsX2_carryBytes) := goodIn_app (goodIn_of _ (by decide +kernel)) ggX2_blitBytes_X2_carryBytes
set_option maxRecDepth 20000 in
theorem ggX2_carryBytes_X5_valueOf : GoodIn wsX2_carryBytes wsX5_valueOf := goodIn_r _ [7, 8, 34, 35, 36, 37, 38, 39, 40, 41, 42, 43] (by decide +kernel) (by decide +kernel)
set_option maxRecDepth 20000 in
theorem gX2_carryBytes_X5_valueOf : GoodIn wsX2_carryBytes (wsV RX2 45 RX5 yX5_valueOf wsX5_valueOf) := goodIn_app (goodIn_of _ (by decide +kernel)) ggX2_carryBytes_X5_valueOf
set_option maxRecDepth 20000 in
theorem ggX2_carryBytes_X5_offsetOf : GoodIn wsX2_carryBytes wsX5_offsetOf := goodIn_r _ [12, 13, 34, 35, 36, 37, 38, 39, 40, 41, 42, 43] (by decide +kernel) (by decide +kernel)
set_option maxRecDepth 20000 in
theorem gX2_carryBytes_X5_offsetOf : GoodIn wsX2_carryBytes (wsV RX2 62 RX5 yX5_offsetOf wsX5_offsetOf) := goodIn_app (goodIn_of _ (by decide +kernel)) ggX2_carryBytes_X5_offsetOf
set_option maxRecDepth 20000 in
theorem ggX2_carryBytes_X5_cellAt : GoodIn wsX2_carryBytes wsX5_cellAt := goodIn_r _ [17, 18, 34, 35, 36, 37, 38, 39, 40, 41, 42, 43] (by decide +kernel) (by decide +kernel)
set_option maxRecDepth 20000 in
theorem gX2_carryBytes_X5_cellAt : GoodIn wsX2_carryBytes (wsV RX2 108 RX5 yX5_cellAt wsX5_cellAt) := goodIn_app (goodIn_of _ (by decide +kernel)) ggX2_carryBytes_X5_cellAt
set_option maxRecDepth 20000 in
theorem ggX2_carryBytes_X2_splitPointers : GoodIn wsX2_carryBytes wsX2_splitPointers := goodIn_r _ [23, 2, 14, 15, 16, 6, 17, 18, 24, 25, 26, 27, 28, 29, 30, 31, 32, 33, 34, 35, 36, 37, 38, 39, 40, 41, 42, 43] (by decide +kernel) (by decide +kernel)
set_option maxRecDepth 20000 in
theorem gX2_carryBytes_X2_splitPointers : GoodIn wsX2_carryBytes (wsV RX2 93 RX2 yX2_splitPointers wsX2_splitPointers) := goodIn_app (goodIn_of _ (by decide +kernel)) ggX2_carryBytes_X2_splitPointers
set_option maxRecDepth 20000 in
theorem ggX2_carryBytes_X5_putCell : GoodIn wsX2_carryBytes wsX5_putCell := goodIn_r _ [27, 18, 34, 35, 36, 37, 38, 39, 40, 41, 42, 43] (by decide +kernel) (by decide +kernel)
set_option maxRecDepth 20000 in
theorem gX2_carryBytes_X5_putCell : GoodIn wsX2_carryBytes (wsV RX2 102 RX5 yX5_putCell wsX5_putCell) := goodIn_app (goodIn_of _ (by decide +kernel)) ggX2_carryBytes_X5_putCell
set_option maxRecDepth 20000 in
theorem ggX2_freezeBlocks_X7_isRegister : GoodIn wsX2_freezeBlocks wsX7_isRegister := goodIn_r _ [6] (by decide +kernel) (by decide +kernel)
set_option maxRecDepth 20000 in
theorem gX2_freezeBlocks_X7_isRegister_n23 : GoodIn wsX2_freezeBlocks (wsX7_isRegister) := ggX2_freezeBlocks_X7_isRegister
set_option maxRecDepth 20000 in
theorem ggX2_freezeBlocks_X2_faultAsBegin : GoodIn wsX2_freezeBlocks wsX2_faultAsBegin := goodIn_r _ [11, 2, 12, 13, 14, 10, 15, 16, 17, 18, 19, 20, 21, 22, 23, 24, 25, 26, 27, 28, 29, 30, 31, 32, 33, 34, 35, 36, 123, 124, 125, 126, 127, 128, 129, 130, 131, 132, 133, 134, 135] (by decide +kernel) (by decide +kernel)
set_option maxRecDepth 20000 in
theorem gX2_freezeBlocks_X2_faultAsBegin : GoodIn wsX2_freezeBlocks (wsV RX2 41 RX2 yX2_faultAsBegin wsX2_faultAsBegin) := goodIn_app (goodIn_of _ (by decide +kernel)) ggX2_freezeBlocks_X2_faultAsBegin
set_option maxRecDepth 20000 in
theorem ggX2_freezeBlocks_X5_valueOf : GoodIn wsX2_freezeBlocks wsX5_valueOf := goodIn_r _ [25, 26, 126, 127, 128, 129, 130, 131, 132, 133, 134, 135] (by decide +kernel) (by decide +kernel)
set_option maxRecDepth 20000 in
theorem gX2_freezeBlocks_X5_valueOf : GoodIn wsX2_freezeBlocks (wsV RX2 45 RX5 yX5_valueOf wsX5_valueOf) := goodIn_app (goodIn_of _ (by decide +kernel)) ggX2_freezeBlocks_X5_valueOf
set_option maxRecDepth 20000 in
theorem ggX2_freezeBlocks_X0_reach : GoodIn wsX2_freezeBlocks wsX0_reach := goodIn_r _ [41, 42, 43, 44, 45, 46, 47, 40, 48, 49, 50, 51, 52, 53, 54, 55, 19, 56, 57, 58, 59, 60, 61, 62, 63, 5, 64, 65, 66, 136, 137, 138, 139, 126, 127, 128, 129, 130, 131, 132, 133, 134, 135] (by decide +kernel) (by decide +kernel)
set_option maxRecDepth 20000 in
theorem gX2_freezeBlocks_X0_reach : GoodIn wsX2_freezeBlocks (wsV RX2 133 RX0 yX0_reach wsX0_reach) := goodIn_app (goodIn_of _ (by decide +kernel)) ggX2_freezeBlocks_X0_reach
set_option maxRecDepth 20000 in
theorem ggX2_freezeBlocks_X0_allReachedLive : GoodIn wsX2_freezeBlocks wsX0_allReachedLive := goodIn_r _ [70, 43, 44, 71, 28, 29, 19, 30, 31, 136, 137, 138, 139, 126, 127, 128, 129, 130, 131, 132, 133, 134, 135] (by decide +kernel) (by decide +kernel)
set_option maxRecDepth 20000 in
theorem gX2_freezeBlocks_X0_allReachedLive : GoodIn wsX2_freezeBlocks (wsV RX2 139 RX0 yX0_allReachedLive wsX0_allReachedLive) := goodIn_app (goodIn_of _ (by decide +kernel)) ggX2_freezeBlocks_X0_allReachedLive
set_option maxRecDepth 20000 in
theorem ggX2_freezeBlocks_X0_draw : GoodIn wsX2_freezeBlocks wsX0_draw := goodIn_r _ [75, 76, 43, 44, 77, 78, 79, 40, 80, 81, 82, 83, 84, 85, 86, 87, 53, 54, 55, 19, 56, 57, 88, 89, 90, 91, 92, 58, 59, 60, 61, 62, 93, 94, 95, 96, 42, 63, 5, 64, 65, 66, 97, 98, 99, 100, 101, 102, 103, 104, 105, 126, 127, 128, 129, 130, 131, 132, 133, 134, 135, 136, 137, 138, 139, 140, 141, 142] (by decide +kernel) (by decide +kernel)
set_option maxRecDepth 20000 in
theorem gX2_freezeBlocks_X0_draw : GoodIn wsX2_freezeBlocks (wsV RX2 143 RX0 yX0_draw wsX0_draw) := goodIn_app (goodIn_of _ (by decide +kernel)) ggX2_freezeBlocks_X0_draw
set_option maxRecDepth 20000 in
theorem ggX2_freezeBlocks_X0_indexOfDrawn : GoodIn wsX2_freezeBlocks wsX0_indexOfDrawn := goodIn_r _ [109, 76, 77, 78, 79, 40, 80, 81, 110, 111, 112, 85, 113, 87, 92, 105, 126, 127, 128, 129, 130, 131, 132, 133, 134, 135, 136, 137, 138, 139, 140, 141, 142] (by decide +kernel) (by decide +kernel)
set_option maxRecDepth 20000 in
theorem gX2_freezeBlocks_X0_indexOfDrawn : GoodIn wsX2_freezeBlocks (wsV RX2 147 RX0 yX0_indexOfDrawn wsX0_indexOfDrawn) := goodIn_app (goodIn_of _ (by decide +kernel)) ggX2_freezeBlocks_X0_indexOfDrawn
set_option maxRecDepth 20000 in
theorem ggX2_freezeBlocks_X0_markReachedConstant : GoodIn wsX2_freezeBlocks wsX0_markReachedConstant := goodIn_r _ [117, 43, 44, 118, 119, 120, 19, 121, 122, 136, 137, 138, 139, 126, 127, 128, 129, 130, 131, 132, 133, 134, 135] (by decide +kernel) (by decide +kernel)
set_option maxRecDepth 20000 in
theorem gX2_freezeBlocks_X0_markReachedConstant : GoodIn wsX2_freezeBlocks (wsV RX2 154 RX0 yX0_markReachedConstant wsX0_markReachedConstant) := goodIn_app (goodIn_of _ (by decide +kernel)) ggX2_freezeBlocks_X0_markReachedConstant
set_option maxRecDepth 20000 in
theorem ggX2_fault_X5_kindOf : GoodIn wsX2_fault wsX5_kindOf := goodIn_r _ [6, 7, 21, 22, 23, 24, 25, 26, 27, 28, 29, 30] (by decide +kernel) (by decide +kernel)
set_option maxRecDepth 20000 in
theorem gX2_fault_X5_kindOf : GoodIn wsX2_fault (wsV RX2 59 RX5 yX5_kindOf wsX5_kindOf) := goodIn_app (goodIn_of _ (by decide +kernel)) ggX2_fault_X5_kindOf
set_option maxRecDepth 20000 in
theorem ggX2_fault_X5_valueOf : GoodIn wsX2_fault wsX5_valueOf := goodIn_r _ [11, 12, 21, 22, 23, 24, 25, 26, 27, 28, 29, 30] (by decide +kernel) (by decide +kernel)
set_option maxRecDepth 20000 in
theorem gX2_fault_X5_valueOf : GoodIn wsX2_fault (wsV RX2 45 RX5 yX5_valueOf wsX5_valueOf) := goodIn_app (goodIn_of _ (by decide +kernel)) ggX2_fault_X5_valueOf
set_option maxRecDepth 20000 in
theorem ggX2_fault_X5_isLive : GoodIn wsX2_fault wsX5_isLive := goodIn_r _ [16, 17, 21, 22, 23, 24, 25, 26, 27, 28, 29, 30] (by decide +kernel) (by decide +kernel)
set_option maxRecDepth 20000 in
theorem gX2_fault_X5_isLive : GoodIn wsX2_fault (wsV RX2 84 RX5 yX5_isLive wsX5_isLive) := goodIn_app (goodIn_of _ (by decide +kernel)) ggX2_fault_X5_isLive
set_option maxRecDepth 20000 in
theorem ggX2_faultAsBegin_X2_fault : GoodIn wsX2_faultAsBegin wsX2_fault := goodIn_r _ [6, 1, 7, 8, 9, 10, 11, 12, 13, 14, 15, 16, 17, 18, 19, 20, 21, 22, 28, 29, 30, 31, 32, 33, 34, 35, 36, 37, 38, 39, 40] (by decide +kernel) (by decide +kernel)
set_option maxRecDepth 20000 in
theorem gX2_faultAsBegin_X2_fault : GoodIn wsX2_faultAsBegin (wsV RX2 157 RX2 yX2_fault wsX2_fault) := goodIn_app (goodIn_of _ (by decide +kernel)) ggX2_faultAsBegin_X2_fault
set_option maxRecDepth 20000 in
theorem ggX2_faultAsBegin_X5_offsetOf : GoodIn wsX2_faultAsBegin wsX5_offsetOf := goodIn_r _ [26, 27, 31, 32, 33, 34, 35, 36, 37, 38, 39, 40] (by decide +kernel) (by decide +kernel)
set_option maxRecDepth 20000 in
theorem gX2_faultAsBegin_X5_offsetOf : GoodIn wsX2_faultAsBegin (wsV RX2 62 RX5 yX5_offsetOf wsX5_offsetOf) := goodIn_app (goodIn_of _ (by decide +kernel)) ggX2_faultAsBegin_X5_offsetOf
set_option maxRecDepth 20000 in
theorem ggX2_faultForReading_X2_fault : GoodIn wsX2_faultForReading wsX2_fault := goodIn_r _ [5, 6, 7, 8, 9, 10, 11, 12, 13, 14, 15, 16, 17, 18, 19, 20, 21, 22, 37, 38, 39, 40, 41, 42, 43, 44, 45, 46, 47, 48, 49] (by decide +kernel) (by decide +kernel)
set_option maxRecDepth 20000 in
theorem gX2_faultForReading_X2_fault : GoodIn wsX2_faultForReading (wsV RX2 157 RX2 yX2_fault wsX2_fault) := goodIn_app (goodIn_of _ (by decide +kernel)) ggX2_faultForReading_X2_fault
set_option maxRecDepth 20000 in
theorem ggX2_faultForReading_X2_hasBytes : GoodIn wsX2_faultForReading wsX2_hasBytes := goodIn_r _ [26, 6, 27, 28, 29, 10, 30, 31, 13, 14, 15, 16, 17, 32, 33, 34, 35, 36, 37, 38, 39, 40, 41, 42, 43, 44, 45, 46, 47, 48, 49] (by decide +kernel) (by decide +kernel)
set_option maxRecDepth 20000 in
theorem gX2_faultForReading_X2_hasBytes : GoodIn wsX2_faultForReading (wsV RX2 160 RX2 yX2_hasBytes wsX2_hasBytes) := goodIn_app (goodIn_of _ (by decide +kernel)) ggX2_faultForReading_X2_hasBytes
set_option maxRecDepth 20000 in
theorem ggX2_faultForWriting_X2_fault : GoodIn wsX2_faultForWriting wsX2_fault := goodIn_r _ [6, 1, 7, 8, 9, 10, 11, 12, 13, 14, 15, 16, 17, 18, 19, 20, 21, 22, 42, 43, 44, 45, 46, 47, 48, 49, 50, 51, 52, 53, 54] (by decide +kernel) (by decide +kernel)
set_option maxRecDepth 20000 in
theorem gX2_faultForWriting_X2_fault : GoodIn wsX2_faultForWriting (wsV RX2 157 RX2 yX2_fault wsX2_fault) := goodIn_app (goodIn_of _ (by decide +kernel)) ggX2_faultForWriting_X2_fault
set_option maxRecDepth 20000 in
theorem ggX2_faultForWriting_X5_valueOf : GoodIn wsX2_faultForWriting wsX5_valueOf := goodIn_r _ [16, 17, 45, 46, 47, 48, 49, 50, 51, 52, 53, 54] (by decide +kernel) (by decide +kernel)
set_option maxRecDepth 20000 in
theorem gX2_faultForWriting_X5_valueOf : GoodIn wsX2_faultForWriting (wsV RX2 45 RX5 yX5_valueOf wsX5_valueOf) := goodIn_app (goodIn_of _ (by decide +kernel)) ggX2_faultForWriting_X5_valueOf
set_option maxRecDepth 20000 in
theorem ggX2_faultForWriting_X5_isConstant : GoodIn wsX2_faultForWriting wsX5_isConstant := goodIn_r _ [26, 27, 45, 46, 47, 48, 49, 50, 51, 52, 53, 54] (by decide +kernel) (by decide +kernel)
set_option maxRecDepth 20000 in
theorem gX2_faultForWriting_X5_isConstant : GoodIn wsX2_faultForWriting (wsV RX2 48 RX5 yX5_isConstant wsX5_isConstant) := goodIn_app (goodIn_of _ (by decide +kernel)) ggX2_faultForWriting_X5_isConstant
set_option maxRecDepth 20000 in
theorem ggX2_faultForWriting_X2_hasBytes : GoodIn wsX2_faultForWriting wsX2_hasBytes := goodIn_r _ [31, 1, 32, 33, 34, 10, 35, 36, 13, 14, 15, 16, 17, 37, 38, 39, 40, 41, 42, 43, 44, 45, 46, 47, 48, 49, 50, 51, 52, 53, 54] (by decide +kernel) (by decide +kernel)
set_option maxRecDepth 20000 in
theorem gX2_faultForWriting_X2_hasBytes : GoodIn wsX2_faultForWriting (wsV RX2 160 RX2 yX2_hasBytes wsX2_hasBytes) := goodIn_app (goodIn_of _ (by decide +kernel)) ggX2_faultForWriting_X2_hasBytes
set_option maxRecDepth 20000 in
theorem ggX2_hasBytes_X5_offsetOf : GoodIn wsX2_hasBytes wsX5_offsetOf := goodIn_r _ [6, 7, 21, 22, 23, 24, 25, 26, 27, 28, 29, 30] (by decide +kernel) (by decide +kernel)
set_option maxRecDepth 20000 in
theorem gX2_hasBytes_X5_offsetOf : GoodIn wsX2_hasBytes (wsV RX2 62 RX5 yX5_offsetOf wsX5_offsetOf) := goodIn_app (goodIn_of _ (by decide +kernel)) ggX2_hasBytes_X5_offsetOf
set_option maxRecDepth 20000 in
theorem ggX2_hasBytes_X5_valueOf : GoodIn wsX2_hasBytes wsX5_valueOf := goodIn_r _ [11, 12, 21, 22, 23, 24, 25, 26, 27, 28, 29, 30] (by decide +kernel) (by decide +kernel)
set_option maxRecDepth 20000 in
theorem gX2_hasBytes_X5_valueOf : GoodIn wsX2_hasBytes (wsV RX2 45 RX5 yX5_valueOf wsX5_valueOf) := goodIn_app (goodIn_of _ (by decide +kernel)) ggX2_hasBytes_X5_valueOf
set_option maxRecDepth 20000 in
theorem ggX2_hasBytes_X5_sizeOf : GoodIn wsX2_hasBytes wsX5_sizeOf := goodIn_r _ [16, 17, 21, 22, 23, 24, 25, 26, 27, 28, 29, 30] (by decide +kernel) (by decide +kernel)
set_option maxRecDepth 20000 in
theorem gX2_hasBytes_X5_sizeOf : GoodIn wsX2_hasBytes (wsV RX2 87 RX5 yX5_sizeOf wsX5_sizeOf) := goodIn_app (goodIn_of _ (by decide +kernel)) ggX2_hasBytes_X5_sizeOf
set_option maxRecDepth 20000 in
theorem ggX2_cutsPointer_X5_cellAt : GoodIn wsX2_cutsPointer wsX5_cellAt := goodIn_r _ [6, 7, 14, 15, 16, 17, 18, 19, 20, 21, 22, 23] (by decide +kernel) (by decide +kernel)
set_option maxRecDepth 20000 in
theorem gX2_cutsPointer_X5_cellAt : GoodIn wsX2_cutsPointer (wsV RX2 108 RX5 yX5_cellAt wsX5_cellAt) := goodIn_app (goodIn_of _ (by decide +kernel)) ggX2_cutsPointer_X5_cellAt
set_option maxRecDepth 20000 in
theorem ggX2_cutsPointer_X7_isPointerCode : GoodIn wsX2_cutsPointer wsX7_isPointerCode := goodIn_r _ [10] (by decide +kernel) (by decide +kernel)
set_option maxRecDepth 20000 in
theorem gX2_cutsPointer_X7_isPointerCode_n111 : GoodIn wsX2_cutsPointer (wsX7_isPointerCode) := ggX2_cutsPointer_X7_isPointerCode
set_option maxRecDepth 20000 in
theorem ggX2_splitPointers_X5_cellAt : GoodIn wsX2_splitPointers wsX5_cellAt := goodIn_r _ [6, 7, 18, 19, 20, 21, 22, 23, 24, 25, 26, 27] (by decide +kernel) (by decide +kernel)
set_option maxRecDepth 20000 in
theorem gX2_splitPointers_X5_cellAt : GoodIn wsX2_splitPointers (wsV RX2 108 RX5 yX5_cellAt wsX5_cellAt) := goodIn_app (goodIn_of _ (by decide +kernel)) ggX2_splitPointers_X5_cellAt
set_option maxRecDepth 20000 in
theorem ggX2_splitPointers_X5_putCell : GoodIn wsX2_splitPointers wsX5_putCell := goodIn_r _ [11, 7, 18, 19, 20, 21, 22, 23, 24, 25, 26, 27] (by decide +kernel) (by decide +kernel)
set_option maxRecDepth 20000 in
theorem gX2_splitPointers_X5_putCell : GoodIn wsX2_splitPointers (wsV RX2 102 RX5 yX5_putCell wsX5_putCell) := goodIn_app (goodIn_of _ (by decide +kernel)) ggX2_splitPointers_X5_putCell
set_option maxRecDepth 20000 in
theorem ggX2_splitPointers_X7_isPointerCode : GoodIn wsX2_splitPointers wsX7_isPointerCode := goodIn_r _ [14] (by decide +kernel) (by decide +kernel)
set_option maxRecDepth 20000 in
theorem gX2_splitPointers_X7_isPointerCode_n111 : GoodIn wsX2_splitPointers (wsX7_isPointerCode) := ggX2_splitPointers_X7_isPointerCode
set_option maxRecDepth 20000 in
theorem ggX3_init_X5_init : GoodIn wsX3_init wsX5_init := goodIn_r _ [10, 11, 2, 3, 12, 13, 14, 15, 16, 17, 18, 19, 20, 24, 25, 26, 27, 28, 29, 30, 31, 32, 33] (by decide +kernel) (by decide +kernel)
set_option maxRecDepth 20000 in
theorem gX3_init_X5_init : GoodIn wsX3_init (wsX5_init) := ggX3_init_X5_init
set_option maxRecDepth 20000 in
theorem ggX3_waiting_J9_floorMod_7cf53 : GoodIn wsX3_waiting wsJ9_floorMod_7cf53 := goodIn_r _ [6] (by decide +kernel) (by decide +kernel)
set_option maxRecDepth 20000 in
theorem gX3_waiting_J9_floorMod_7cf53 : GoodIn wsX3_waiting (va_wsS RX3 22 yJ9_floorMod_7cf53 wsJ9_floorMod_7cf53) := goodIn_app (goodIn_of _ (by decide +kernel)) ggX3_waiting_J9_floorMod_7cf53
set_option maxRecDepth 20000 in
theorem ggX3_stage_X3_waiting : GoodIn wsX3_stage wsX3_waiting := goodIn_r _ [5, 6, 7, 8, 9, 10, 11, 31, 32, 33] (by decide +kernel) (by decide +kernel)
set_option maxRecDepth 20000 in
theorem gX3_stage_X3_waiting : GoodIn wsX3_stage (wsV RX3 28 RX3 yX3_waiting wsX3_waiting) := goodIn_app (goodIn_of _ (by decide +kernel)) ggX3_stage_X3_waiting
set_option maxRecDepth 20000 in
theorem ggX3_stage_X5_become : GoodIn wsX3_stage wsX5_become := goodIn_r _ [16, 17, 18, 19, 20, 21, 22, 23, 24, 25, 26, 27, 28, 29, 30, 34, 35, 36, 37, 38, 39, 40, 41, 42, 43] (by decide +kernel) (by decide +kernel)
set_option maxRecDepth 20000 in
theorem gX3_stage_X5_become : GoodIn wsX3_stage (wsV RX3 32 RX5 yX5_become wsX5_become) := goodIn_app (goodIn_of _ (by decide +kernel)) ggX3_stage_X5_become
set_option maxRecDepth 20000 in
theorem ggX3_undo_X3_waiting : GoodIn wsX3_undo wsX3_waiting := goodIn_r _ [5, 6, 7, 8, 9, 10, 11, 31, 32, 33] (by decide +kernel) (by decide +kernel)
set_option maxRecDepth 20000 in
theorem gX3_undo_X3_waiting : GoodIn wsX3_undo (wsV RX3 28 RX3 yX3_waiting wsX3_waiting) := goodIn_app (goodIn_of _ (by decide +kernel)) ggX3_undo_X3_waiting
set_option maxRecDepth 20000 in
theorem ggX3_undo_X5_become : GoodIn wsX3_undo wsX5_become := goodIn_r _ [16, 17, 18, 19, 20, 21, 22, 23, 24, 25, 26, 27, 28, 29, 30, 34, 35, 36, 37, 38, 39, 40, 41, 42, 43] (by decide +kernel) (by decide +kernel)
set_option maxRecDepth 20000 in
theorem gX3_undo_X5_become : GoodIn wsX3_undo (wsV RX3 32 RX5 yX5_become wsX5_become) := goodIn_app (goodIn_of _ (by decide +kernel)) ggX3_undo_X5_become
set_option maxRecDepth 20000 in
theorem ggX3_bringBack_X3_waiting : GoodIn wsX3_bringBack wsX3_waiting := goodIn_r _ [7, 8, 2, 9, 10, 11, 12, 32, 33, 34] (by decide +kernel) (by decide +kernel)
set_option maxRecDepth 20000 in
theorem gX3_bringBack_X3_waiting : GoodIn wsX3_bringBack (wsV RX3 28 RX3 yX3_waiting wsX3_waiting) := goodIn_app (goodIn_of _ (by decide +kernel)) ggX3_bringBack_X3_waiting
set_option maxRecDepth 20000 in
theorem ggX3_bringBack_X5_become : GoodIn wsX3_bringBack wsX5_become := goodIn_r _ [17, 18, 19, 20, 21, 22, 23, 24, 25, 26, 27, 28, 29, 30, 31, 35, 36, 37, 38, 39, 40, 41, 42, 43, 44] (by decide +kernel) (by decide +kernel)
set_option maxRecDepth 20000 in
theorem gX3_bringBack_X5_become : GoodIn wsX3_bringBack (wsV RX3 32 RX5 yX5_become wsX5_become) := goodIn_app (goodIn_of _ (by decide +kernel)) ggX3_bringBack_X5_become
set_option maxRecDepth 20000 in
theorem ggX4_parse_X4_accepts : GoodIn wsX4_parse wsX4_accepts := goodIn_r _ [9, 2, 10, 11, 12, 13, 14, 8, 15, 1, 16, 17, 18, 19, 20, 21, 22, 23, 24, 25, 26, 27, 28, 29, 30, 31, 32, 33, 34, 35, 36, 37, 38, 39, 40, 41, 42, 43, 44, 45, 46, 47, 48, 49, 50, 51, 52] (by decide +kernel) (by decide +kernel)
set_option maxRecDepth 20000 in
theorem gX4_parse_X4_accepts : GoodIn wsX4_parse (wsV RX4 31 RX4 yX4_accepts wsX4_accepts) := goodIn_app (goodIn_of _ (by decide +kernel)) ggX4_parse_X4_accepts
set_option maxRecDepth 20000 in
theorem ggX4_accepts_X4_acceptsLetter : GoodIn wsX4_accepts wsX4_acceptsLetter := goodIn_r _ [8, 9, 10, 1, 11, 3, 2, 12, 13, 7, 14, 37, 38, 39, 40, 41, 42, 43, 44, 45, 46] (by decide +kernel) (by decide +kernel)
set_option maxRecDepth 20000 in
theorem gX4_accepts_X4_acceptsLetter : GoodIn wsX4_accepts (wsV RX4 35 RX4 yX4_acceptsLetter wsX4_acceptsLetter) := goodIn_app (goodIn_of _ (by decide +kernel)) ggX4_accepts_X4_acceptsLetter
set_option maxRecDepth 20000 in
theorem ggX4_accepts_X4_acceptsDigit : GoodIn wsX4_accepts wsX4_acceptsDigit := goodIn_r _ [18, 3, 11, 1, 2, 19, 9, 12, 13, 7, 14, 20, 21, 22, 23, 24, 25, 26, 27, 28, 37, 38, 39, 40, 41, 42, 43, 44, 45, 46] (by decide +kernel) (by decide +kernel)
set_option maxRecDepth 20000 in
theorem gX4_accepts_X4_acceptsDigit : GoodIn wsX4_accepts (wsV RX4 38 RX4 yX4_acceptsDigit wsX4_acceptsDigit) := goodIn_app (goodIn_of _ (by decide +kernel)) ggX4_accepts_X4_acceptsDigit
set_option maxRecDepth 20000 in
theorem ggX4_accepts_X4_acceptsMinus : GoodIn wsX4_accepts wsX4_acceptsMinus := goodIn_r _ [32, 1, 11, 3, 2, 37, 38, 39, 40, 41, 42, 43, 44, 45, 46] (by decide +kernel) (by decide +kernel)
set_option maxRecDepth 20000 in
theorem gX4_accepts_X4_acceptsMinus : GoodIn wsX4_accepts (wsV RX4 48 RX4 yX4_acceptsMinus wsX4_acceptsMinus) := goodIn_app (goodIn_of _ (by decide +kernel)) ggX4_accepts_X4_acceptsMinus
set_option maxRecDepth 20000 in
theorem ggX4_accepts_X4_acceptsSemicolon : GoodIn wsX4_accepts wsX4_acceptsSemicolon := goodIn_r _ [36, 11, 1, 9, 12, 13, 7, 14, 37, 38, 39, 40, 41, 42, 43, 44, 45, 46] (by decide +kernel) (by decide +kernel)
set_option maxRecDepth 20000 in
theorem gX4_accepts_X4_acceptsSemicolon : GoodIn wsX4_accepts (wsV RX4 52 RX4 yX4_acceptsSemicolon wsX4_acceptsSemicolon) := goodIn_app (goodIn_of _ (by decide +kernel)) ggX4_accepts_X4_acceptsSemicolon
set_option maxRecDepth 20000 in
theorem ggX4_acceptsLetter_X4_operandsOf : GoodIn wsX4_acceptsLetter wsX4_operandsOf := goodIn_r _ [10] (by decide +kernel) (by decide +kernel)
set_option maxRecDepth 20000 in
theorem gX4_acceptsLetter_X4_operandsOf : GoodIn wsX4_acceptsLetter (va_wsS RX4 55 yX4_operandsOf wsX4_operandsOf) := goodIn_app (goodIn_of _ (by decide +kernel)) ggX4_acceptsLetter_X4_operandsOf
set_option maxRecDepth 20000 in
theorem ggX4_acceptsDigit_X4_operandsOf : GoodIn wsX4_acceptsDigit wsX4_operandsOf := goodIn_r _ [10] (by decide +kernel) (by decide +kernel)
set_option maxRecDepth 20000 in
theorem gX4_acceptsDigit_X4_operandsOf : GoodIn wsX4_acceptsDigit (va_wsS RX4 55 yX4_operandsOf wsX4_operandsOf) := goodIn_app (goodIn_of _ (by decide +kernel)) ggX4_acceptsDigit_X4_operandsOf
set_option maxRecDepth 20000 in
theorem ggX4_acceptsDigit_X4_putOperand : GoodIn wsX4_acceptsDigit wsX4_putOperand := goodIn_r _ [14, 6, 2, 15, 20, 21, 22, 23, 24, 25, 26, 27, 28, 29] (by decide +kernel) (by decide +kernel)
set_option maxRecDepth 20000 in
theorem gX4_acceptsDigit_X4_putOperand : GoodIn wsX4_acceptsDigit (wsV RX4 65 RX4 yX4_putOperand wsX4_putOperand) := goodIn_app (goodIn_of _ (by decide +kernel)) ggX4_acceptsDigit_X4_putOperand
set_option maxRecDepth 20000 in
theorem ggX4_acceptsDigit_X4_operand : GoodIn wsX4_acceptsDigit wsX4_operand := goodIn_r _ [19, 15, 20, 21, 22, 23, 24, 25, 26, 27, 28, 29] (by decide +kernel) (by decide +kernel)
set_option maxRecDepth 20000 in
theorem gX4_acceptsDigit_X4_operand : GoodIn wsX4_acceptsDigit (wsV RX4 69 RX4 yX4_operand wsX4_operand) := goodIn_app (goodIn_of _ (by decide +kernel)) ggX4_acceptsDigit_X4_operand
set_option maxRecDepth 20000 in
theorem ggX4_acceptsSemicolon_X4_operandsOf : GoodIn wsX4_acceptsSemicolon wsX4_operandsOf := goodIn_r _ [7] (by decide +kernel) (by decide +kernel)
set_option maxRecDepth 20000 in
theorem gX4_acceptsSemicolon_X4_operandsOf : GoodIn wsX4_acceptsSemicolon (va_wsS RX4 55 yX4_operandsOf wsX4_operandsOf) := goodIn_app (goodIn_of _ (by decide +kernel)) ggX4_acceptsSemicolon_X4_operandsOf
set_option maxRecDepth 20000 in
theorem ggX4_run_X4_carryOut : GoodIn wsX4_run wsX4_carryOut := goodIn_r _ [6, 7, 8, 9, 5, 10, 11, 12, 13, 14, 15, 16, 17, 18, 19, 20, 21, 22, 23, 24, 25, 26, 27, 28, 29, 30, 31, 32, 33, 34, 35, 36, 37, 38, 39, 40, 41, 42, 43, 44, 45, 46, 47, 48, 49, 50, 51, 52, 53, 54, 55, 56, 57, 58, 59, 60, 61, 62, 63, 64, 65, 66, 67, 68, 69, 70, 71, 72, 73, 74, 75, 76, 77, 78, 79, 80, 81, 82, 83, 84, 85, 86, 87, 88, 89, 90, 91, 92, 93, 94, 95, 96, 97, 98, 99, 100, 101, 102, 103, 104, 105, 106, 107, 108, 109, 110, 111, 112, 113, 114, 115, 116, 117, 118, 119, 120, 121, 122, 123, 124, 125, 126, 127, 128, 129, 130, 131, 132, 133, 134, 135, 136, 137, 138, 139, 140, 141, 142, 143, 144, 145, 146, 147, 148, 149, 150, 151, 152, 153, 154, 155, 156, 157, 158, 159, 160, 161, 162, 163, 164, 165, 166, 167, 168, 169, 170, 171, 172, 173, 174, 175, 176, 177, 178, 179, 180, 181, 182, 183, 184, 185, 186, 187, 188, 189, 190, 191, 192, 193, 194, 195, 196, 197, 198, 199, 200, 201, 202, 203, 204, 205, 206, 207, 208, 209, 210, 211, 212, 213, 214, 215, 216, 217, 218, 219, 220, 221, 222, 223, 224, 225, 226, 227, 228, 229, 230, 231, 232, 233, 234, 235, 236, 237, 238, 239, 240, 241, 242, 243, 244, 245, 246, 247, 248, 249, 250, 251, 252, 253, 254, 255, 256, 257, 258, 259, 260, 261, 262, 263, 264, 265, 269, 270, 271, 272, 273, 274, 275, 276, 277, 278, 279, 280, 281, 282, 283, 284, 285, 286, 287, 288, 289, 290, 291, 292, 293, 294, 295, 296, 297, 298] (by decide +kernel) (by decide +kernel)
set_option maxRecDepth 20000 in
theorem gX4_run_X4_carryOut : GoodIn wsX4_run (wsV RX4 73 RX4 yX4_carryOut wsX4_carryOut) := goodIn_app (goodIn_of _ (by decide +kernel)) ggX4_run_X4_carryOut
set_option maxRecDepth 20000 in
theorem ggX4_run_X4_failure : GoodIn wsX4_run wsX4_failure := goodIn_r _ [268] (by decide +kernel) (by decide +kernel)
set_option maxRecDepth 20000 in
theorem gX4_run_X4_failure : GoodIn wsX4_run (va_wsS RX4 77 yX4_failure wsX4_failure) := goodIn_app (goodIn_of _ (by decide +kernel)) ggX4_run_X4_failure
set_option maxRecDepth 20000 in
theorem ggX4_run_X4_letterOf : GoodIn wsX4_run wsX4_letterOf := goodIn_r _ [15, 16, 269, 270, 271, 272, 273, 274, 275, 276, 277, 278] (by decide +kernel) (by decide +kernel)
set_option maxRecDepth 20000 in
theorem gX4_run_X4_letterOf : GoodIn wsX4_run (wsV RX4 80 RX4 yX4_letterOf wsX4_letterOf) := goodIn_app (goodIn_of _ (by decide +kernel)) ggX4_run_X4_letterOf
set_option maxRecDepth 20000 in
theorem ggX4_run_X4_operand : GoodIn wsX4_run wsX4_operand := goodIn_r _ [10, 11, 269, 270, 271, 272, 273, 274, 275, 276, 277, 278] (by decide +kernel) (by decide +kernel)
set_option maxRecDepth 20000 in
theorem gX4_run_X4_operand : GoodIn wsX4_run (wsV RX4 69 RX4 yX4_operand wsX4_operand) := goodIn_app (goodIn_of _ (by decide +kernel)) ggX4_run_X4_operand
set_option maxRecDepth 20000 in
theorem ggX4_carryOut_X4_operand : GoodIn wsX4_carryOut wsX4_operand := goodIn_r _ [5, 6, 261, 262, 263, 264, 265, 266, 267, 268, 269, 270] (by decide +kernel) (by decide +kernel)
set_option maxRecDepth 20000 in
theorem gX4_carryOut_X4_operand : GoodIn wsX4_carryOut (wsV RX4 69 RX4 yX4_operand wsX4_operand) := goodIn_app (goodIn_of _ (by decide +kernel)) ggX4_carryOut_X4_operand
set_option maxRecDepth 20000 in
theorem ggX4_carryOut_X4_letterOf : GoodIn wsX4_carryOut wsX4_letterOf := goodIn_r _ [10, 11, 261, 262, 263, 264, 265, 266, 267, 268, 269, 270] (by decide +kernel) (by decide +kernel)
set_option maxRecDepth 20000 in
theorem gX4_carryOut_X4_letterOf : GoodIn wsX4_carryOut (wsV RX4 80 RX4 yX4_letterOf wsX4_letterOf) := goodIn_app (goodIn_of _ (by decide +kernel)) ggX4_carryOut_X4_letterOf
set_option maxRecDepth 20000 in
theorem ggX4_carryOut_X2_makeBlock : GoodIn wsX4_carryOut wsX2_makeBlock := goodIn_r _ [16, 17, 18, 19, 20, 21, 22, 23, 24, 25, 26, 27, 28, 29, 30, 31, 32, 33, 34, 35, 36, 37, 38, 39, 40, 41, 42, 43, 44, 45, 46, 271, 272, 273, 274, 275, 276, 277, 278, 279, 280, 281, 282, 283] (by decide +kernel) (by decide +kernel)
set_option maxRecDepth 20000 in
theorem gX4_carryOut_X2_makeBlock : GoodIn wsX4_carryOut (wsV RX4 83 RX2 yX2_makeBlock wsX2_makeBlock) := goodIn_app (goodIn_of _ (by decide +kernel)) ggX4_carryOut_X2_makeBlock
set_option maxRecDepth 20000 in
theorem ggX4_carryOut_X2_endBlock : GoodIn wsX4_carryOut wsX2_endBlock := goodIn_r _ [50, 17, 19, 20, 21, 51, 52, 53, 15, 54, 55, 56, 57, 58, 59, 60, 61, 25, 62, 44, 63, 64, 65, 66, 45, 67, 68, 69, 70, 29, 71, 72, 73, 74, 46, 75, 76, 77, 78, 30, 79, 80, 81, 82, 271, 272, 273, 274, 275, 276, 277, 278, 279, 280, 281, 282, 283] (by decide +kernel) (by decide +kernel)
set_option maxRecDepth 20000 in
theorem gX4_carryOut_X2_endBlock : GoodIn wsX4_carryOut (wsV RX4 88 RX2 yX2_endBlock wsX2_endBlock) := goodIn_app (goodIn_of _ (by decide +kernel)) ggX4_carryOut_X2_endBlock
set_option maxRecDepth 20000 in
theorem ggX4_carryOut_X2_setNumber : GoodIn wsX4_carryOut wsX2_setNumber := goodIn_r _ [86, 87, 17, 19, 20, 21, 88, 89, 90, 25, 91, 40, 41, 42, 43, 44, 45, 46, 271, 272, 273, 274, 275, 276, 277, 278, 279, 280, 281, 282, 283] (by decide +kernel) (by decide +kernel)
set_option maxRecDepth 20000 in
theorem gX4_carryOut_X2_setNumber : GoodIn wsX4_carryOut (wsV RX4 91 RX2 yX2_setNumber wsX2_setNumber) := goodIn_app (goodIn_of _ (by decide +kernel)) ggX4_carryOut_X2_setNumber
set_option maxRecDepth 20000 in
theorem ggX4_carryOut_X2_copyRegister : GoodIn wsX4_carryOut wsX2_copyRegister := goodIn_r _ [95, 17, 19, 20, 21, 59, 60, 61, 25, 62, 44, 63, 64, 65, 66, 45, 71, 72, 73, 74, 46, 96, 41, 42, 43, 271, 272, 273, 274, 275, 276, 277, 278, 279, 280, 281, 282, 283] (by decide +kernel) (by decide +kernel)
set_option maxRecDepth 20000 in
theorem gX4_carryOut_X2_copyRegister : GoodIn wsX4_carryOut (wsV RX4 94 RX2 yX2_copyRegister wsX2_copyRegister) := goodIn_app (goodIn_of _ (by decide +kernel)) ggX4_carryOut_X2_copyRegister
set_option maxRecDepth 20000 in
theorem ggX4_carryOut_X2_moveRegister : GoodIn wsX4_carryOut wsX2_moveRegister := goodIn_r _ [100, 17, 19, 20, 21, 59, 60, 61, 25, 62, 44, 101, 102, 103, 15, 104, 87, 63, 64, 65, 66, 45, 105, 106, 107, 108, 88, 89, 90, 91, 40, 41, 42, 43, 46, 109, 110, 111, 112, 67, 68, 69, 70, 29, 71, 72, 73, 74, 113, 114, 115, 116, 28, 36, 37, 38, 39, 271, 272, 273, 274, 275, 276, 277, 278, 279, 280, 281, 282, 283] (by decide +kernel) (by decide +kernel)
set_option maxRecDepth 20000 in
theorem gX4_carryOut_X2_moveRegister : GoodIn wsX4_carryOut (wsV RX4 97 RX2 yX2_moveRegister wsX2_moveRegister) := goodIn_app (goodIn_of _ (by decide +kernel)) ggX4_carryOut_X2_moveRegister
set_option maxRecDepth 20000 in
theorem ggX4_carryOut_X2_storeBytes : GoodIn wsX4_carryOut wsX2_storeBytes := goodIn_r _ [120, 17, 19, 20, 21, 121, 122, 123, 15, 124, 55, 56, 57, 58, 59, 60, 61, 25, 62, 44, 63, 64, 65, 66, 45, 67, 68, 69, 70, 29, 75, 76, 77, 78, 30, 125, 126, 127, 128, 71, 72, 73, 74, 46, 113, 114, 115, 116, 28, 129, 130, 131, 132, 133, 134, 135, 136, 35, 137, 32, 33, 34, 138, 139, 140, 141, 142, 143, 144, 145, 271, 272, 273, 274, 275, 276, 277, 278, 279, 280, 281, 282, 283] (by decide +kernel) (by decide +kernel)
set_option maxRecDepth 20000 in
theorem gX4_carryOut_X2_storeBytes : GoodIn wsX4_carryOut (wsV RX4 100 RX2 yX2_storeBytes wsX2_storeBytes) := goodIn_app (goodIn_of _ (by decide +kernel)) ggX4_carryOut_X2_storeBytes
set_option maxRecDepth 20000 in
theorem ggX4_carryOut_X2_loadBytes : GoodIn wsX4_carryOut wsX2_loadBytes := goodIn_r _ [149, 17, 19, 20, 21, 150, 151, 152, 15, 153, 55, 56, 57, 58, 59, 60, 61, 25, 62, 44, 63, 64, 65, 66, 45, 67, 68, 69, 70, 29, 125, 126, 127, 128, 71, 72, 73, 74, 46, 113, 114, 115, 116, 28, 133, 134, 135, 136, 35, 138, 139, 154, 155, 156, 157, 36, 37, 38, 39, 40, 41, 42, 43, 88, 89, 90, 91, 271, 272, 273, 274, 275, 276, 277, 278, 279, 280, 281, 282, 283] (by decide +kernel) (by decide +kernel)
set_option maxRecDepth 20000 in
theorem gX4_carryOut_X2_loadBytes : GoodIn wsX4_carryOut (wsV RX4 104 RX2 yX2_loadBytes wsX2_loadBytes) := goodIn_app (goodIn_of _ (by decide +kernel)) ggX4_carryOut_X2_loadBytes
set_option maxRecDepth 20000 in
theorem ggX4_carryOut_X2_compareInto : GoodIn wsX4_carryOut wsX2_compareInto := goodIn_r _ [161, 17, 19, 20, 21, 162, 163, 164, 15, 165, 59, 60, 61, 25, 62, 44, 63, 64, 65, 66, 45, 166, 167, 168, 71, 72, 73, 74, 46, 88, 89, 90, 91, 40, 41, 42, 43, 271, 272, 273, 274, 275, 276, 277, 278, 279, 280, 281, 282, 283] (by decide +kernel) (by decide +kernel)
set_option maxRecDepth 20000 in
theorem gX4_carryOut_X2_compareInto : GoodIn wsX4_carryOut (wsV RX4 107 RX2 yX2_compareInto wsX2_compareInto) := goodIn_app (goodIn_of _ (by decide +kernel)) ggX4_carryOut_X2_compareInto
set_option maxRecDepth 20000 in
theorem ggX4_carryOut_X2_blitBytes : GoodIn wsX4_carryOut wsX2_blitBytes := goodIn_r _ [172, 17, 19, 20, 21, 121, 122, 123, 15, 124, 55, 56, 57, 58, 59, 60, 61, 25, 62, 44, 63, 64, 65, 66, 45, 67, 68, 69, 70, 29, 75, 76, 77, 78, 30, 125, 126, 127, 128, 71, 72, 73, 74, 46, 113, 114, 115, 116, 28, 150, 151, 152, 153, 173, 174, 175, 176, 133, 134, 135, 136, 35, 138, 139, 177, 178, 179, 180, 181, 129, 130, 131, 132, 137, 32, 33, 34, 271, 272, 273, 274, 275, 276, 277, 278, 279, 280, 281, 282, 283] (by decide +kernel) (by decide +kernel)
set_option maxRecDepth 20000 in
theorem gX4_carryOut_X2_blitBytes : GoodIn wsX4_carryOut (wsV RX4 110 RX2 yX2_blitBytes wsX2_blitBytes) := goodIn_app (goodIn_of _ (by decide +kernel)) ggX4_carryOut_X2_blitBytes
set_option maxRecDepth 20000 in
theorem ggX4_carryOut_X2_freezeBlocks : GoodIn wsX4_carryOut wsX2_freezeBlocks := goodIn_r _ [185, 186, 17, 187, 19, 20, 21, 51, 52, 53, 15, 54, 55, 56, 57, 58, 59, 60, 61, 25, 62, 44, 63, 64, 65, 66, 45, 67, 68, 69, 70, 29, 71, 72, 73, 74, 46, 188, 189, 190, 191, 192, 193, 194, 195, 196, 197, 198, 199, 200, 201, 202, 203, 204, 114, 115, 116, 28, 205, 134, 135, 136, 35, 138, 139, 154, 155, 206, 207, 208, 209, 210, 211, 212, 213, 214, 215, 216, 217, 218, 219, 220, 221, 222, 223, 224, 225, 226, 227, 228, 229, 230, 231, 232, 233, 234, 235, 156, 157, 144, 145, 236, 237, 238, 239, 240, 241, 242, 243, 244, 245, 246, 247, 248, 249, 250, 251, 252, 253, 254, 255, 256, 30, 271, 272, 273, 274, 275, 276, 277, 278, 279, 280, 281, 282, 283, 284, 285, 286, 287, 288, 289, 290] (by decide +kernel) (by decide +kernel)
set_option maxRecDepth 20000 in
theorem gX4_carryOut_X2_freezeBlocks : GoodIn wsX4_carryOut (wsV RX4 113 RX2 yX2_freezeBlocks wsX2_freezeBlocks) := goodIn_app (goodIn_of _ (by decide +kernel)) ggX4_carryOut_X2_freezeBlocks
