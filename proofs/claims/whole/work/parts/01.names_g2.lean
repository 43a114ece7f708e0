set_option maxRecDepth 20000 in
theorem ggX4_carryOut_X2_jumps : GoodIn wsX4_carryOut wsX2_jumps := goodIn_r _ [260, 17, 19, 20, 21, 59, 60, 61, 25, 62, 44, 63, 64, 65, 66, 45, 271, 272, 273, 274, 275, 276, 277, 278, 279, 280, 281, 282, 283] (by decide +kernel) (by decide +kernel)
set_option maxRecDepth 20000 in
theorem gX4_carryOut_X2_jumps : GoodIn wsX4_carryOut (wsV RX4 116 RX2 yX2_jumps wsX2_jumps) := goodIn_app (goodIn_of _ (by decide +kernel)) ggX4_carryOut_X2_jumps
set_option maxRecDepth 20000 in
theorem ggX5_fillWithNumber_X5_fillRegister : GoodIn wsX5_fillWithNumber wsX5_fillRegister := goodIn_r _ [5, 6, 7, 8, 9, 10, 11, 12, 13, 14, 15, 16, 17, 18] (by decide +kernel) (by decide +kernel)
set_option maxRecDepth 20000 in
theorem gX5_fillWithNumber_X5_fillRegister : GoodIn wsX5_fillWithNumber (wsV RX5 49 RX5 yX5_fillRegister wsX5_fillRegister) := goodIn_app (goodIn_of _ (by decide +kernel)) ggX5_fillWithNumber_X5_fillRegister
set_option maxRecDepth 20000 in
theorem ggX5_fillWithPointer_X5_fillRegister : GoodIn wsX5_fillWithPointer wsX5_fillRegister := goodIn_r _ [5, 6, 7, 8, 9, 10, 11, 12, 13, 14, 15, 16, 17, 18] (by decide +kernel) (by decide +kernel)
set_option maxRecDepth 20000 in
theorem gX5_fillWithPointer_X5_fillRegister : GoodIn wsX5_fillWithPointer (wsV RX5 49 RX5 yX5_fillRegister wsX5_fillRegister) := goodIn_app (goodIn_of _ (by decide +kernel)) ggX5_fillWithPointer_X5_fillRegister
set_option maxRecDepth 20000 in
theorem ggX5_registerProperty_X7_isRegister : GoodIn wsX5_registerProperty wsX7_isRegister := goodIn_r _ [6] (by decide +kernel) (by decide +kernel)
set_option maxRecDepth 20000 in
theorem gX5_registerProperty_X7_isRegister_n53 : GoodIn wsX5_registerProperty (wsX7_isRegister) := ggX5_registerProperty_X7_isRegister
set_option maxRecDepth 20000 in
theorem ggX5_addBlock_X5_putCell : GoodIn wsX5_addBlock wsX5_putCell := goodIn_r _ [9, 10, 11, 12, 13, 14, 15, 16, 17, 18, 19, 20] (by decide +kernel) (by decide +kernel)
set_option maxRecDepth 20000 in
theorem gX5_addBlock_X5_putCell : GoodIn wsX5_addBlock (wsV RX5 57 RX5 yX5_putCell wsX5_putCell) := goodIn_app (goodIn_of _ (by decide +kernel)) ggX5_addBlock_X5_putCell
set_option maxRecDepth 20000 in
theorem ggX5_liveBlocks_X5_isLive : GoodIn wsX5_liveBlocks wsX5_isLive := goodIn_r _ [6, 7, 8, 9, 10, 11, 12, 13, 14, 15, 16, 17] (by decide +kernel) (by decide +kernel)
set_option maxRecDepth 20000 in
theorem gX5_liveBlocks_X5_isLive : GoodIn wsX5_liveBlocks (wsV RX5 61 RX5 yX5_isLive wsX5_isLive) := goodIn_app (goodIn_of _ (by decide +kernel)) ggX5_liveBlocks_X5_isLive
set_option maxRecDepth 20000 in
theorem ggX5_blockProperty_X5_isBlock : GoodIn wsX5_blockProperty wsX5_isBlock := goodIn_r _ [8, 9, 30, 31, 32, 33, 34, 35, 36, 37, 38, 39] (by decide +kernel) (by decide +kernel)
set_option maxRecDepth 20000 in
theorem gX5_blockProperty_X5_isBlock : GoodIn wsX5_blockProperty (wsV RX5 64 RX5 yX5_isBlock wsX5_isBlock) := goodIn_app (goodIn_of _ (by decide +kernel)) ggX5_blockProperty_X5_isBlock
set_option maxRecDepth 20000 in
theorem ggX5_blockProperty_X5_uninitializedIn : GoodIn wsX5_blockProperty wsX5_uninitializedIn := goodIn_r _ [13, 14, 15, 16, 7, 17, 1, 18, 19, 20, 21, 22, 30, 31, 32, 33, 34, 35, 36, 37, 38, 39] (by decide +kernel) (by decide +kernel)
set_option maxRecDepth 20000 in
theorem gX5_blockProperty_X5_uninitializedIn : GoodIn wsX5_blockProperty (wsV RX5 67 RX5 yX5_uninitializedIn wsX5_uninitializedIn) := goodIn_app (goodIn_of _ (by decide +kernel)) ggX5_blockProperty_X5_uninitializedIn
set_option maxRecDepth 20000 in
theorem ggX5_blockProperty_X5_pointersIn : GoodIn wsX5_blockProperty wsX5_pointersIn := goodIn_r _ [26, 14, 15, 16, 7, 17, 1, 18, 19, 20, 21, 22, 27, 28, 29, 30, 31, 32, 33, 34, 35, 36, 37, 38, 39] (by decide +kernel) (by decide +kernel)
set_option maxRecDepth 20000 in
theorem gX5_blockProperty_X5_pointersIn : GoodIn wsX5_blockProperty (wsV RX5 71 RX5 yX5_pointersIn wsX5_pointersIn) := goodIn_app (goodIn_of _ (by decide +kernel)) ggX5_blockProperty_X5_pointersIn
set_option maxRecDepth 20000 in
theorem ggX5_uninitializedIn_X5_sizeOf : GoodIn wsX5_uninitializedIn wsX5_sizeOf := goodIn_r _ [5, 6, 12, 13, 14, 15, 16, 17, 18, 19, 20, 21] (by decide +kernel) (by decide +kernel)
set_option maxRecDepth 20000 in
theorem gX5_uninitializedIn_X5_sizeOf : GoodIn wsX5_uninitializedIn (wsV RX5 74 RX5 yX5_sizeOf wsX5_sizeOf) := goodIn_app (goodIn_of _ (by decide +kernel)) ggX5_uninitializedIn_X5_sizeOf
set_option maxRecDepth 20000 in
theorem ggX5_uninitializedIn_X5_cellAt : GoodIn wsX5_uninitializedIn wsX5_cellAt := goodIn_r _ [10, 11, 12, 13, 14, 15, 16, 17, 18, 19, 20, 21] (by decide +kernel) (by decide +kernel)
set_option maxRecDepth 20000 in
theorem gX5_uninitializedIn_X5_cellAt : GoodIn wsX5_uninitializedIn (wsV RX5 77 RX5 yX5_cellAt wsX5_cellAt) := goodIn_app (goodIn_of _ (by decide +kernel)) ggX5_uninitializedIn_X5_cellAt
set_option maxRecDepth 20000 in
theorem ggX5_pointersIn_X5_sizeOf : GoodIn wsX5_pointersIn wsX5_sizeOf := goodIn_r _ [5, 6, 15, 16, 17, 18, 19, 20, 21, 22, 23, 24] (by decide +kernel) (by decide +kernel)
set_option maxRecDepth 20000 in
theorem gX5_pointersIn_X5_sizeOf : GoodIn wsX5_pointersIn (wsV RX5 74 RX5 yX5_sizeOf wsX5_sizeOf) := goodIn_app (goodIn_of _ (by decide +kernel)) ggX5_pointersIn_X5_sizeOf
set_option maxRecDepth 20000 in
theorem ggX5_pointersIn_X5_cellAt : GoodIn wsX5_pointersIn wsX5_cellAt := goodIn_r _ [10, 11, 15, 16, 17, 18, 19, 20, 21, 22, 23, 24] (by decide +kernel) (by decide +kernel)
set_option maxRecDepth 20000 in
theorem gX5_pointersIn_X5_cellAt : GoodIn wsX5_pointersIn (wsV RX5 77 RX5 yX5_cellAt wsX5_cellAt) := goodIn_app (goodIn_of _ (by decide +kernel)) ggX5_pointersIn_X5_cellAt
set_option maxRecDepth 20000 in
theorem ggX5_pointersIn_X7_isPointerCode : GoodIn wsX5_pointersIn wsX7_isPointerCode := goodIn_r _ [14] (by decide +kernel) (by decide +kernel)
set_option maxRecDepth 20000 in
theorem gX5_pointersIn_X7_isPointerCode_n81 : GoodIn wsX5_pointersIn (wsX7_isPointerCode) := ggX5_pointersIn_X7_isPointerCode
set_option maxRecDepth 20000 in
theorem ggX7_init_X5_init : GoodIn wsX7_init wsX5_init := goodIn_r _ [30, 31, 2, 3, 32, 33, 34, 35, 36, 37, 38, 39, 40, 83, 84, 85, 86, 87, 88, 89, 90, 91, 92] (by decide +kernel) (by decide +kernel)
set_option maxRecDepth 20000 in
theorem gX7_init_X5_init : GoodIn wsX7_init (wsX5_init) := ggX7_init_X5_init
set_option maxRecDepth 20000 in
theorem ggX7_init_X0_init : GoodIn wsX7_init wsX0_init := goodIn_r _ [43, 44, 2, 3, 45, 46, 47, 48, 32, 49, 50, 51, 52, 53, 54, 55, 56, 99, 100, 101, 102, 123, 124, 125] (by decide +kernel) (by decide +kernel)
set_option maxRecDepth 20000 in
theorem gX7_init_X0_init : GoodIn wsX7_init (wsX0_init) := ggX7_init_X0_init
set_option maxRecDepth 20000 in
theorem ggX7_init_X2_init : GoodIn wsX7_init wsX2_init := goodIn_r _ [59, 60, 2, 3, 61, 62, 32, 63, 103, 104, 105] (by decide +kernel) (by decide +kernel)
set_option maxRecDepth 20000 in
theorem gX7_init_X2_init : GoodIn wsX7_init (wsX2_init) := ggX7_init_X2_init
set_option maxRecDepth 20000 in
theorem ggX7_init_X4_init : GoodIn wsX7_init wsX4_init := goodIn_r _ [66, 67, 2, 3, 32, 68, 69, 70, 106, 107, 108, 109, 110, 111, 112, 113, 114, 115] (by decide +kernel) (by decide +kernel)
set_option maxRecDepth 20000 in
theorem gX7_init_X4_init : GoodIn wsX7_init (wsX4_init) := ggX7_init_X4_init
set_option maxRecDepth 20000 in
theorem ggX7_init_X3_init : GoodIn wsX7_init wsX3_init := goodIn_r _ [73, 74, 2, 3, 75, 76, 5, 6, 77, 29, 30, 31, 32, 33, 34, 35, 36, 37, 38, 39, 40, 116, 117, 118, 83, 84, 85, 86, 87, 88, 89, 90, 91, 92] (by decide +kernel) (by decide +kernel)
set_option maxRecDepth 20000 in
theorem gX7_init_X3_init : GoodIn wsX7_init (wsX3_init) := ggX7_init_X3_init
set_option maxRecDepth 20000 in
theorem ggX7_init_X6_init : GoodIn wsX7_init wsX6_init := goodIn_r _ [80, 81, 2, 3, 32, 82, 119, 120, 121, 122] (by decide +kernel) (by decide +kernel)
set_option maxRecDepth 20000 in
theorem gX7_init_X6_init : GoodIn wsX7_init (wsX6_init) := ggX7_init_X6_init
set_option maxRecDepth 20000 in
theorem ggX7_make_X3_stage : GoodIn wsX7_make wsX3_stage := goodIn_r _ [8, 9, 10, 11, 7, 12, 13, 14, 15, 16, 17, 18, 19, 20, 21, 22, 23, 24, 25, 26, 27, 28, 29, 30, 31, 32, 33, 34, 35, 36, 37, 89, 90, 91, 92, 93, 94, 95, 96, 97, 98, 99, 100, 101] (by decide +kernel) (by decide +kernel)
set_option maxRecDepth 20000 in
theorem gX7_make_X3_stage : GoodIn wsX7_make (wsV RX7 53 RX3 yX3_stage wsX3_stage) := goodIn_app (goodIn_of _ (by decide +kernel)) ggX7_make_X3_stage
set_option maxRecDepth 20000 in
theorem ggX7_make_X2_makeBlock : GoodIn wsX7_make wsX2_makeBlock := goodIn_r _ [42, 43, 44, 45, 46, 47, 48, 49, 50, 22, 51, 35, 31, 32, 33, 52, 53, 54, 55, 34, 56, 57, 58, 59, 60, 61, 62, 63, 24, 29, 30, 102, 103, 104, 92, 93, 94, 95, 96, 97, 98, 99, 100, 101] (by decide +kernel) (by decide +kernel)
set_option maxRecDepth 20000 in
theorem gX7_make_X2_makeBlock : GoodIn wsX7_make (wsV RX7 57 RX2 yX2_makeBlock wsX2_makeBlock) := goodIn_app (goodIn_of _ (by decide +kernel)) ggX7_make_X2_makeBlock
set_option maxRecDepth 20000 in
theorem ggX7_make_X7_settled : GoodIn wsX7_make wsX7_settled := goodIn_r _ [67, 1, 68, 69, 70, 71, 7, 72, 14, 73, 74, 75, 76, 77, 78, 79, 80, 81, 82, 83, 84, 85, 86, 87, 88, 89, 90, 91, 105, 106, 107, 108] (by decide +kernel) (by decide +kernel)
set_option maxRecDepth 20000 in
theorem gX7_make_X7_settled : GoodIn wsX7_make (wsV RX7 61 RX7 yX7_settled wsX7_settled) := goodIn_app (goodIn_of _ (by decide +kernel)) ggX7_make_X7_settled
set_option maxRecDepth 20000 in
theorem ggX7_end_X3_stage : GoodIn wsX7_end wsX3_stage := goodIn_r _ [8, 9, 10, 11, 7, 12, 13, 14, 15, 16, 17, 18, 19, 20, 21, 22, 23, 24, 25, 26, 27, 28, 29, 30, 31, 32, 33, 34, 35, 36, 37, 104, 105, 106, 107, 108, 109, 110, 111, 112, 113, 114, 115, 116] (by decide +kernel) (by decide +kernel)
set_option maxRecDepth 20000 in
theorem gX7_end_X3_stage : GoodIn wsX7_end (wsV RX7 53 RX3 yX3_stage wsX3_stage) := goodIn_app (goodIn_of _ (by decide +kernel)) ggX7_end_X3_stage
set_option maxRecDepth 20000 in
theorem ggX7_end_X2_endBlock : GoodIn wsX7_end wsX2_endBlock := goodIn_r _ [42, 43, 44, 45, 46, 47, 48, 49, 41, 50, 51, 52, 53, 54, 55, 56, 57, 22, 58, 24, 59, 60, 61, 62, 29, 63, 64, 65, 66, 32, 67, 68, 69, 70, 30, 71, 72, 73, 74, 33, 75, 76, 77, 78, 117, 118, 119, 107, 108, 109, 110, 111, 112, 113, 114, 115, 116] (by decide +kernel) (by decide +kernel)
set_option maxRecDepth 20000 in
theorem gX7_end_X2_endBlock : GoodIn wsX7_end (wsV RX7 65 RX2 yX2_endBlock wsX2_endBlock) := goodIn_app (goodIn_of _ (by decide +kernel)) ggX7_end_X2_endBlock
set_option maxRecDepth 20000 in
theorem ggX7_end_X7_settled : GoodIn wsX7_end wsX7_settled := goodIn_r _ [82, 1, 83, 84, 85, 86, 7, 87, 14, 88, 89, 90, 91, 92, 93, 94, 95, 96, 97, 98, 99, 100, 101, 102, 103, 104, 105, 106, 120, 121, 122, 123] (by decide +kernel) (by decide +kernel)
set_option maxRecDepth 20000 in
theorem gX7_end_X7_settled : GoodIn wsX7_end (wsV RX7 61 RX7 yX7_settled wsX7_settled) := goodIn_app (goodIn_of _ (by decide +kernel)) ggX7_end_X7_settled
set_option maxRecDepth 20000 in
theorem ggX7_set_X3_stage : GoodIn wsX7_set wsX3_stage := goodIn_r _ [8, 9, 10, 11, 7, 12, 13, 14, 15, 16, 17, 18, 19, 20, 21, 22, 23, 24, 25, 26, 27, 28, 29, 30, 31, 32, 33, 34, 35, 36, 37, 81, 82, 83, 84, 85, 86, 87, 88, 89, 90, 91, 92, 93] (by decide +kernel) (by decide +kernel)
set_option maxRecDepth 20000 in
theorem gX7_set_X3_stage : GoodIn wsX7_set (wsV RX7 53 RX3 yX3_stage wsX3_stage) := goodIn_app (goodIn_of _ (by decide +kernel)) ggX7_set_X3_stage
set_option maxRecDepth 20000 in
theorem ggX7_set_X2_setNumber : GoodIn wsX7_set wsX2_setNumber := goodIn_r _ [42, 43, 44, 45, 46, 47, 48, 49, 50, 22, 51, 52, 53, 54, 55, 24, 29, 30, 94, 95, 96, 84, 85, 86, 87, 88, 89, 90, 91, 92, 93] (by decide +kernel) (by decide +kernel)
set_option maxRecDepth 20000 in
theorem gX7_set_X2_setNumber : GoodIn wsX7_set (wsV RX7 68 RX2 yX2_setNumber wsX2_setNumber) := goodIn_app (goodIn_of _ (by decide +kernel)) ggX7_set_X2_setNumber
set_option maxRecDepth 20000 in
theorem ggX7_set_X7_settled : GoodIn wsX7_set wsX7_settled := goodIn_r _ [59, 1, 60, 61, 62, 63, 7, 64, 14, 65, 66, 67, 68, 69, 70, 71, 72, 73, 74, 75, 76, 77, 78, 79, 80, 81, 82, 83, 97, 98, 99, 100] (by decide +kernel) (by decide +kernel)
set_option maxRecDepth 20000 in
theorem gX7_set_X7_settled : GoodIn wsX7_set (wsV RX7 61 RX7 yX7_settled wsX7_settled) := goodIn_app (goodIn_of _ (by decide +kernel)) ggX7_set_X7_settled
set_option maxRecDepth 20000 in
theorem ggX7_copy_X3_stage : GoodIn wsX7_copy wsX3_stage := goodIn_r _ [8, 9, 10, 11, 7, 12, 13, 14, 15, 16, 17, 18, 19, 20, 21, 22, 23, 24, 25, 26, 27, 28, 29, 30, 31, 32, 33, 34, 35, 36, 37, 88, 89, 90, 91, 92, 93, 94, 95, 96, 97, 98, 99, 100] (by decide +kernel) (by decide +kernel)
set_option maxRecDepth 20000 in
theorem gX7_copy_X3_stage : GoodIn wsX7_copy (wsV RX7 53 RX3 yX3_stage wsX3_stage) := goodIn_app (goodIn_of _ (by decide +kernel)) ggX7_copy_X3_stage
set_option maxRecDepth 20000 in
theorem ggX7_copy_X2_copyRegister : GoodIn wsX7_copy wsX2_copyRegister := goodIn_r _ [42, 43, 44, 45, 46, 47, 48, 49, 22, 50, 24, 51, 52, 53, 54, 29, 55, 56, 57, 58, 30, 59, 60, 61, 62, 101, 102, 103, 91, 92, 93, 94, 95, 96, 97, 98, 99, 100] (by decide +kernel) (by decide +kernel)
set_option maxRecDepth 20000 in
theorem gX7_copy_X2_copyRegister : GoodIn wsX7_copy (wsV RX7 71 RX2 yX2_copyRegister wsX2_copyRegister) := goodIn_app (goodIn_of _ (by decide +kernel)) ggX7_copy_X2_copyRegister
set_option maxRecDepth 20000 in
theorem ggX7_copy_X7_settled : GoodIn wsX7_copy wsX7_settled := goodIn_r _ [66, 1, 67, 68, 69, 70, 7, 71, 14, 72, 73, 74, 75, 76, 77, 78, 79, 80, 81, 82, 83, 84, 85, 86, 87, 88, 89, 90, 104, 105, 106, 107] (by decide +kernel) (by decide +kernel)
set_option maxRecDepth 20000 in
theorem gX7_copy_X7_settled : GoodIn wsX7_copy (wsV RX7 61 RX7 yX7_settled wsX7_settled) := goodIn_app (goodIn_of _ (by decide +kernel)) ggX7_copy_X7_settled
set_option maxRecDepth 20000 in
theorem ggX7_move_X3_stage : GoodIn wsX7_move wsX3_stage := goodIn_r _ [8, 9, 10, 11, 7, 12, 13, 14, 15, 16, 17, 18, 19, 20, 21, 22, 23, 24, 25, 26, 27, 28, 29, 30, 31, 32, 33, 34, 35, 36, 37, 114, 115, 116, 117, 118, 119, 120, 121, 122, 123, 124, 125, 126] (by decide +kernel) (by decide +kernel)
set_option maxRecDepth 20000 in
theorem gX7_move_X3_stage : GoodIn wsX7_move (wsV RX7 53 RX3 yX3_stage wsX3_stage) := goodIn_app (goodIn_of _ (by decide +kernel)) ggX7_move_X3_stage
set_option maxRecDepth 20000 in
theorem ggX7_move_X2_moveRegister : GoodIn wsX7_move wsX2_moveRegister := goodIn_r _ [42, 43, 44, 45, 46, 47, 48, 49, 22, 50, 24, 51, 52, 53, 41, 54, 55, 56, 57, 58, 59, 29, 60, 16, 17, 18, 61, 62, 63, 64, 65, 66, 67, 68, 30, 69, 70, 71, 72, 73, 74, 75, 76, 32, 77, 78, 79, 80, 81, 82, 83, 84, 31, 85, 86, 87, 88, 127, 128, 129, 117, 118, 119, 120, 121, 122, 123, 124, 125, 126] (by decide +kernel) (by decide +kernel)
set_option maxRecDepth 20000 in
theorem gX7_move_X2_moveRegister : GoodIn wsX7_move (wsV RX7 74 RX2 yX2_moveRegister wsX2_moveRegister) := goodIn_app (goodIn_of _ (by decide +kernel)) ggX7_move_X2_moveRegister
set_option maxRecDepth 20000 in
theorem ggX7_move_X7_settled : GoodIn wsX7_move wsX7_settled := goodIn_r _ [92, 1, 93, 94, 95, 96, 7, 97, 14, 98, 99, 100, 101, 102, 103, 104, 105, 106, 107, 108, 109, 110, 111, 112, 113, 114, 115, 116, 130, 131, 132, 133] (by decide +kernel) (by decide +kernel)
set_option maxRecDepth 20000 in
theorem gX7_move_X7_settled : GoodIn wsX7_move (wsV RX7 61 RX7 yX7_settled wsX7_settled) := goodIn_app (goodIn_of _ (by decide +kernel)) ggX7_move_X7_settled
set_option maxRecDepth 20000 in
theorem ggX7_store_X3_stage : GoodIn wsX7_store wsX3_stage := goodIn_r _ [8, 9, 10, 11, 7, 12, 13, 14, 15, 16, 17, 18, 19, 20, 21, 22, 23, 24, 25, 26, 27, 28, 29, 30, 31, 32, 33, 34, 35, 36, 37, 128, 129, 130, 131, 132, 133, 134, 135, 136, 137, 138, 139, 140] (by decide +kernel) (by decide +kernel)
set_option maxRecDepth 20000 in
theorem gX7_store_X3_stage : GoodIn wsX7_store (wsV RX7 53 RX3 yX3_stage wsX3_stage) := goodIn_app (goodIn_of _ (by decide +kernel)) ggX7_store_X3_stage
set_option maxRecDepth 20000 in
theorem ggX7_store_X2_storeBytes : GoodIn wsX7_store wsX2_storeBytes := goodIn_r _ [42, 43, 44, 45, 46, 47, 48, 49, 41, 50, 51, 52, 53, 54, 55, 56, 57, 22, 58, 24, 59, 60, 61, 62, 29, 63, 64, 65, 66, 32, 67, 68, 69, 70, 33, 71, 72, 73, 74, 75, 76, 77, 78, 30, 79, 80, 81, 82, 31, 83, 84, 85, 86, 87, 88, 89, 90, 34, 91, 92, 93, 94, 95, 96, 97, 98, 99, 100, 101, 102, 141, 142, 143, 131, 132, 133, 134, 135, 136, 137, 138, 139, 140] (by decide +kernel) (by decide +kernel)
set_option maxRecDepth 20000 in
theorem gX7_store_X2_storeBytes : GoodIn wsX7_store (wsV RX7 77 RX2 yX2_storeBytes wsX2_storeBytes) := goodIn_app (goodIn_of _ (by decide +kernel)) ggX7_store_X2_storeBytes
set_option maxRecDepth 20000 in
theorem ggX7_store_X7_settled : GoodIn wsX7_store wsX7_settled := goodIn_r _ [106, 1, 107, 108, 109, 110, 7, 111, 14, 112, 113, 114, 115, 116, 117, 118, 119, 120, 121, 122, 123, 124, 125, 126, 127, 128, 129, 130, 144, 145, 146, 147] (by decide +kernel) (by decide +kernel)
set_option maxRecDepth 20000 in
theorem gX7_store_X7_settled : GoodIn wsX7_store (wsV RX7 61 RX7 yX7_settled wsX7_settled) := goodIn_app (goodIn_of _ (by decide +kernel)) ggX7_store_X7_settled
set_option maxRecDepth 20000 in
theorem ggX7_load_X3_stage : GoodIn wsX7_load wsX3_stage := goodIn_r _ [8, 9, 10, 11, 7, 12, 13, 14, 15, 16, 17, 18, 19, 20, 21, 22, 23, 24, 25, 26, 27, 28, 29, 30, 31, 32, 33, 34, 35, 36, 37, 126, 127, 128, 129, 130, 131, 132, 133, 134, 135, 136, 137, 138] (by decide +kernel) (by decide +kernel)
set_option maxRecDepth 20000 in
theorem gX7_load_X3_stage : GoodIn wsX7_load (wsV RX7 53 RX3 yX3_stage wsX3_stage) := goodIn_app (goodIn_of _ (by decide +kernel)) ggX7_load_X3_stage
set_option maxRecDepth 20000 in
theorem ggX7_load_X2_loadBytes : GoodIn wsX7_load wsX2_loadBytes := goodIn_r _ [42, 43, 44, 45, 46, 47, 48, 49, 41, 50, 51, 52, 53, 54, 55, 56, 57, 22, 58, 24, 59, 60, 61, 62, 29, 63, 64, 65, 66, 32, 67, 68, 69, 70, 71, 72, 73, 74, 30, 75, 76, 77, 78, 31, 79, 80, 81, 82, 34, 83, 84, 85, 86, 87, 88, 89, 90, 91, 92, 93, 94, 95, 96, 97, 98, 99, 100, 139, 140, 141, 129, 130, 131, 132, 133, 134, 135, 136, 137, 138] (by decide +kernel) (by decide +kernel)
set_option maxRecDepth 20000 in
theorem gX7_load_X2_loadBytes : GoodIn wsX7_load (wsV RX7 81 RX2 yX2_loadBytes wsX2_loadBytes) := goodIn_app (goodIn_of _ (by decide +kernel)) ggX7_load_X2_loadBytes
set_option maxRecDepth 20000 in
theorem ggX7_load_X7_settled : GoodIn wsX7_load wsX7_settled := goodIn_r _ [104, 1, 105, 106, 107, 108, 7, 109, 14, 110, 111, 112, 113, 114, 115, 116, 117, 118, 119, 120, 121, 122, 123, 124, 125, 126, 127, 128, 142, 143, 144, 145] (by decide +kernel) (by decide +kernel)
set_option maxRecDepth 20000 in
theorem gX7_load_X7_settled : GoodIn wsX7_load (wsV RX7 61 RX7 yX7_settled wsX7_settled) := goodIn_app (goodIn_of _ (by decide +kernel)) ggX7_load_X7_settled
set_option maxRecDepth 20000 in
theorem ggX7_compare_X2_compareRegisters : GoodIn wsX7_compare wsX2_compareRegisters := goodIn_r _ [7, 8, 9, 10, 11, 12, 13, 14, 15, 16, 17, 18, 19, 20, 21, 22, 23, 24, 6, 25, 26, 27, 28, 29, 30, 46, 47, 48, 49, 50, 51, 52, 53, 54, 55, 56, 57, 58] (by decide +kernel) (by decide +kernel)
set_option maxRecDepth 20000 in
theorem gX7_compare_X2_compareRegisters : GoodIn wsX7_compare (wsV RX7 84 RX2 yX2_compareRegisters wsX2_compareRegisters) := goodIn_app (goodIn_of _ (by decide +kernel)) ggX7_compare_X2_compareRegisters
set_option maxRecDepth 20000 in
theorem ggX7_compare_X6_noted : GoodIn wsX7_compare wsX6_noted := goodIn_r _ [35, 36, 37, 38, 39, 59, 60, 61, 62] (by decide +kernel) (by decide +kernel)
set_option maxRecDepth 20000 in
theorem gX7_compare_X6_noted : GoodIn wsX7_compare (wsV RX7 87 RX6 yX6_noted wsX6_noted) := goodIn_app (goodIn_of _ (by decide +kernel)) ggX7_compare_X6_noted
set_option maxRecDepth 20000 in
theorem ggX7_blit_X3_stage : GoodIn wsX7_blit wsX3_stage := goodIn_r _ [8, 9, 10, 11, 7, 12, 13, 14, 15, 16, 17, 18, 19, 20, 21, 22, 23, 24, 25, 26, 27, 28, 29, 30, 31, 32, 33, 34, 35, 36, 37, 135, 136, 137, 138, 139, 140, 141, 142, 143, 144, 145, 146, 147] (by decide +kernel) (by decide +kernel)
set_option maxRecDepth 20000 in
theorem gX7_blit_X3_stage : GoodIn wsX7_blit (wsV RX7 53 RX3 yX3_stage wsX3_stage) := goodIn_app (goodIn_of _ (by decide +kernel)) ggX7_blit_X3_stage
set_option maxRecDepth 20000 in
theorem ggX7_blit_X2_blitBytes : GoodIn wsX7_blit wsX2_blitBytes := goodIn_r _ [42, 43, 44, 45, 46, 47, 48, 49, 41, 50, 51, 52, 53, 54, 55, 56, 57, 22, 58, 24, 59, 60, 61, 62, 29, 63, 64, 65, 66, 32, 67, 68, 69, 70, 33, 71, 72, 73, 74, 75, 76, 77, 78, 30, 79, 80, 81, 82, 31, 83, 84, 85, 86, 87, 88, 89, 90, 91, 92, 93, 94, 34, 95, 96, 97, 98, 99, 100, 101, 102, 103, 104, 105, 106, 107, 108, 109, 148, 149, 150, 138, 139, 140, 141, 142, 143, 144, 145, 146, 147] (by decide +kernel) (by decide +kernel)
set_option maxRecDepth 20000 in
theorem gX7_blit_X2_blitBytes : GoodIn wsX7_blit (wsV RX7 90 RX2 yX2_blitBytes wsX2_blitBytes) := goodIn_app (goodIn_of _ (by decide +kernel)) ggX7_blit_X2_blitBytes
set_option maxRecDepth 20000 in
theorem ggX7_blit_X7_settled : GoodIn wsX7_blit wsX7_settled := goodIn_r _ [113, 1, 114, 115, 116, 117, 7, 118, 14, 119, 120, 121, 122, 123, 124, 125, 126, 127, 128, 129, 130, 131, 132, 133, 134, 135, 136, 137, 151, 152, 153, 154] (by decide +kernel) (by decide +kernel)
set_option maxRecDepth 20000 in
theorem gX7_blit_X7_settled : GoodIn wsX7_blit (wsV RX7 61 RX7 yX7_settled wsX7_settled) := goodIn_app (goodIn_of _ (by decide +kernel)) ggX7_blit_X7_settled
set_option maxRecDepth 20000 in
theorem ggX7_freeze_X3_stage : GoodIn wsX7_freeze wsX3_stage := goodIn_r _ [8, 9, 10, 11, 7, 12, 13, 14, 15, 16, 17, 18, 19, 20, 21, 22, 23, 24, 25, 26, 27, 28, 29, 30, 31, 32, 33, 34, 35, 36, 37, 181, 182, 183, 184, 185, 186, 187, 188, 189, 190, 191, 192, 193] (by decide +kernel) (by decide +kernel)
set_option maxRecDepth 20000 in
theorem gX7_freeze_X3_stage : GoodIn wsX7_freeze (wsV RX7 53 RX3 yX3_stage wsX3_stage) := goodIn_app (goodIn_of _ (by decide +kernel)) ggX7_freeze_X3_stage
set_option maxRecDepth 20000 in
theorem ggX7_freeze_X2_freezeBlocks : GoodIn wsX7_freeze wsX2_freezeBlocks := goodIn_r _ [42, 43, 44, 45, 46, 47, 48, 49, 50, 51, 41, 52, 53, 54, 55, 56, 57, 58, 59, 22, 60, 24, 61, 62, 63, 64, 29, 65, 66, 67, 68, 32, 69, 70, 71, 72, 30, 73, 74, 75, 76, 77, 78, 79, 80, 81, 82, 83, 84, 85, 86, 87, 88, 89, 90, 91, 92, 31, 93, 94, 95, 96, 34, 97, 98, 99, 100, 101, 102, 103, 104, 105, 106, 107, 108, 109, 110, 111, 112, 113, 114, 115, 116, 117, 118, 119, 120, 121, 122, 123, 124, 125, 126, 127, 128, 129, 130, 131, 132, 133, 134, 135, 136, 137, 138, 139, 140, 141, 142, 143, 144, 145, 146, 147, 148, 149, 150, 151, 152, 153, 154, 155, 33, 194, 195, 196, 184, 185, 186, 187, 188, 189, 190, 191, 192, 193, 197, 198, 199, 200, 201, 202, 203] (by decide +kernel) (by decide +kernel)
set_option maxRecDepth 20000 in
theorem gX7_freeze_X2_freezeBlocks : GoodIn wsX7_freeze (wsV RX7 93 RX2 yX2_freezeBlocks wsX2_freezeBlocks) := goodIn_app (goodIn_of _ (by decide +kernel)) ggX7_freeze_X2_freezeBlocks
set_option maxRecDepth 20000 in
theorem ggX7_freeze_X7_settled : GoodIn wsX7_freeze wsX7_settled := goodIn_r _ [159, 1, 160, 161, 162, 163, 7, 164, 14, 165, 166, 167, 168, 169, 170, 171, 172, 173, 174, 175, 176, 177, 178, 179, 180, 181, 182, 183, 204, 205, 206, 207] (by decide +kernel) (by decide +kernel)
set_option maxRecDepth 20000 in
theorem gX7_freeze_X7_settled : GoodIn wsX7_freeze (wsV RX7 61 RX7 yX7_settled wsX7_settled) := goodIn_app (goodIn_of _ (by decide +kernel)) ggX7_freeze_X7_settled
set_option maxRecDepth 20000 in
theorem ggX7_forget_X3_stage : GoodIn wsX7_forget wsX3_stage := goodIn_r _ [8, 9, 10, 11, 7, 12, 13, 14, 15, 16, 17, 18, 19, 20, 21, 22, 23, 24, 25, 26, 27, 28, 29, 30, 31, 32, 33, 34, 35, 36, 37, 80, 81, 82, 83, 84, 85, 86, 87, 88, 89, 90, 91, 92] (by decide +kernel) (by decide +kernel)
set_option maxRecDepth 20000 in
theorem gX7_forget_X3_stage : GoodIn wsX7_forget (wsV RX7 53 RX3 yX3_stage wsX3_stage) := goodIn_app (goodIn_of _ (by decide +kernel)) ggX7_forget_X3_stage
set_option maxRecDepth 20000 in
theorem ggX7_forget_X2_forgetRegister : GoodIn wsX7_forget wsX2_forgetRegister := goodIn_r _ [42, 43, 44, 45, 46, 47, 48, 49, 22, 50, 24, 51, 52, 53, 54, 29, 30, 93, 94, 95, 83, 84, 85, 86, 87, 88, 89, 90, 91, 92] (by decide +kernel) (by decide +kernel)
set_option maxRecDepth 20000 in
theorem gX7_forget_X2_forgetRegister : GoodIn wsX7_forget (wsV RX7 96 RX2 yX2_forgetRegister wsX2_forgetRegister) := goodIn_app (goodIn_of _ (by decide +kernel)) ggX7_forget_X2_forgetRegister
set_option maxRecDepth 20000 in
theorem ggX7_forget_X7_settled : GoodIn wsX7_forget wsX7_settled := goodIn_r _ [58, 1, 59, 60, 61, 62, 7, 63, 14, 64, 65, 66, 67, 68, 69, 70, 71, 72, 73, 74, 75, 76, 77, 78, 79, 80, 81, 82, 96, 97, 98, 99] (by decide +kernel) (by decide +kernel)
set_option maxRecDepth 20000 in
theorem gX7_forget_X7_settled : GoodIn wsX7_forget (wsV RX7 61 RX7 yX7_settled wsX7_settled) := goodIn_app (goodIn_of _ (by decide +kernel)) ggX7_forget_X7_settled
set_option maxRecDepth 20000 in
theorem ggX7_budget_X3_stage : GoodIn wsX7_budget wsX3_stage := goodIn_r _ [8, 9, 10, 11, 7, 12, 13, 14, 15, 16, 17, 18, 19, 20, 21, 22, 23, 24, 25, 26, 27, 28, 29, 30, 31, 32, 33, 34, 35, 36, 37, 71, 72, 73, 74, 75, 76, 77, 78, 79, 80, 81, 82, 83] (by decide +kernel) (by decide +kernel)
set_option maxRecDepth 20000 in
theorem gX7_budget_X3_stage : GoodIn wsX7_budget (wsV RX7 53 RX3 yX3_stage wsX3_stage) := goodIn_app (goodIn_of _ (by decide +kernel)) ggX7_budget_X3_stage
set_option maxRecDepth 20000 in
theorem ggX7_budget_X2_changeBudget : GoodIn wsX7_budget wsX2_changeBudget := goodIn_r _ [42, 43, 44, 84, 85, 86, 74, 75, 76, 77, 78, 79, 80, 81, 82, 83] (by decide +kernel) (by decide +kernel)
set_option maxRecDepth 20000 in
theorem gX7_budget_X2_changeBudget : GoodIn wsX7_budget (wsV RX7 99 RX2 yX2_changeBudget wsX2_changeBudget) := goodIn_app (goodIn_of _ (by decide +kernel)) ggX7_budget_X2_changeBudget
set_option maxRecDepth 20000 in
theorem ggX7_budget_X7_settled : GoodIn wsX7_budget wsX7_settled := goodIn_r _ [49, 1, 50, 51, 52, 53, 7, 54, 14, 55, 56, 57, 58, 59, 60, 61, 62, 63, 64, 65, 66, 67, 68, 69, 70, 71, 72, 73, 87, 88, 89, 90] (by decide +kernel) (by decide +kernel)
set_option maxRecDepth 20000 in
theorem gX7_budget_X7_settled : GoodIn wsX7_budget (wsV RX7 61 RX7 yX7_settled wsX7_settled) := goodIn_app (goodIn_of _ (by decide +kernel)) ggX7_budget_X7_settled
set_option maxRecDepth 20000 in
theorem ggX7_register_X5_registerProperty : GoodIn wsX7_register wsX5_registerProperty := goodIn_r _ [7, 8, 9, 10, 11, 12, 13, 29, 30, 31, 32, 33, 34, 35, 36, 37, 38] (by decide +kernel) (by decide +kernel)
set_option maxRecDepth 20000 in
theorem gX7_register_X5_registerProperty : GoodIn wsX7_register (wsV RX7 102 RX5 yX5_registerProperty wsX5_registerProperty) := goodIn_app (goodIn_of _ (by decide +kernel)) ggX7_register_X5_registerProperty
set_option maxRecDepth 20000 in
theorem ggX7_register_X6_noted : GoodIn wsX7_register wsX6_noted := goodIn_r _ [18, 19, 20, 21, 22, 39, 40, 41, 42] (by decide +kernel) (by decide +kernel)
set_option maxRecDepth 20000 in
theorem gX7_register_X6_noted : GoodIn wsX7_register (wsV RX7 87 RX6 yX6_noted wsX6_noted) := goodIn_app (goodIn_of _ (by decide +kernel)) ggX7_register_X6_noted
set_option maxRecDepth 20000 in
theorem ggX7_piece_X5_isBlock : GoodIn wsX7_piece wsX5_isBlock := goodIn_r _ [8, 9, 73, 74, 75, 76, 77, 78, 79, 80, 81, 82] (by decide +kernel) (by decide +kernel)
set_option maxRecDepth 20000 in
theorem gX7_piece_X5_isBlock : GoodIn wsX7_piece (wsV RX7 105 RX5 yX5_isBlock wsX5_isBlock) := goodIn_app (goodIn_of _ (by decide +kernel)) ggX7_piece_X5_isBlock
set_option maxRecDepth 20000 in
theorem ggX7_piece_X0_reach : GoodIn wsX7_piece wsX0_reach := goodIn_r _ [14, 15, 16, 17, 18, 19, 20, 13, 21, 22, 23, 24, 25, 26, 27, 28, 7, 29, 30, 31, 32, 33, 34, 35, 36, 37, 38, 39, 40, 83, 84, 85, 86, 73, 74, 75, 76, 77, 78, 79, 80, 81, 82] (by decide +kernel) (by decide +kernel)
set_option maxRecDepth 20000 in
theorem gX7_piece_X0_reach : GoodIn wsX7_piece (wsV RX7 109 RX0 yX0_reach wsX0_reach) := goodIn_app (goodIn_of _ (by decide +kernel)) ggX7_piece_X0_reach
set_option maxRecDepth 20000 in
theorem ggX7_piece_X5_blockProperty : GoodIn wsX7_piece wsX5_blockProperty := goodIn_r _ [44, 30, 45, 46, 47, 5, 6, 7, 8, 9, 48, 49, 50, 51, 52, 27, 28, 29, 53, 32, 33, 34, 35, 54, 55, 56, 57, 36, 37, 38, 73, 74, 75, 76, 77, 78, 79, 80, 81, 82] (by decide +kernel) (by decide +kernel)
set_option maxRecDepth 20000 in
theorem gX7_piece_X5_blockProperty : GoodIn wsX7_piece (wsV RX7 113 RX5 yX5_blockProperty wsX5_blockProperty) := goodIn_app (goodIn_of _ (by decide +kernel)) ggX7_piece_X5_blockProperty
set_option maxRecDepth 20000 in
theorem ggX7_piece_X6_noted : GoodIn wsX7_piece wsX6_noted := goodIn_r _ [62, 63, 64, 65, 66, 87, 88, 89, 90] (by decide +kernel) (by decide +kernel)
set_option maxRecDepth 20000 in
theorem gX7_piece_X6_noted : GoodIn wsX7_piece (wsV RX7 87 RX6 yX6_noted wsX6_noted) := goodIn_app (goodIn_of _ (by decide +kernel)) ggX7_piece_X6_noted
set_option maxRecDepth 20000 in
theorem ggX7_at_X5_isBlock : GoodIn wsX7_at wsX5_isBlock := goodIn_r _ [7, 8, 34, 35, 36, 37, 38, 39, 40, 41, 42, 43] (by decide +kernel) (by decide +kernel)
set_option maxRecDepth 20000 in
theorem gX7_at_X5_isBlock : GoodIn wsX7_at (wsV RX7 105 RX5 yX5_isBlock wsX5_isBlock) := goodIn_app (goodIn_of _ (by decide +kernel)) ggX7_at_X5_isBlock
set_option maxRecDepth 20000 in
theorem ggX7_at_X5_sizeOf : GoodIn wsX7_at wsX5_sizeOf := goodIn_r _ [12, 13, 34, 35, 36, 37, 38, 39, 40, 41, 42, 43] (by decide +kernel) (by decide +kernel)
set_option maxRecDepth 20000 in
theorem gX7_at_X5_sizeOf : GoodIn wsX7_at (wsV RX7 116 RX5 yX5_sizeOf wsX5_sizeOf) := goodIn_app (goodIn_of _ (by decide +kernel)) ggX7_at_X5_sizeOf
set_option maxRecDepth 20000 in
theorem ggX7_at_X5_cellAt : GoodIn wsX7_at wsX5_cellAt := goodIn_r _ [17, 18, 34, 35, 36, 37, 38, 39, 40, 41, 42, 43] (by decide +kernel) (by decide +kernel)
set_option maxRecDepth 20000 in
theorem gX7_at_X5_cellAt : GoodIn wsX7_at (wsV RX7 119 RX5 yX5_cellAt wsX5_cellAt) := goodIn_app (goodIn_of _ (by decide +kernel)) ggX7_at_X5_cellAt
set_option maxRecDepth 20000 in
theorem ggX7_at_X6_noted : GoodIn wsX7_at wsX6_noted := goodIn_r _ [23, 24, 25, 26, 27, 44, 45, 46, 47] (by decide +kernel) (by decide +kernel)
set_option maxRecDepth 20000 in
theorem gX7_at_X6_noted : GoodIn wsX7_at (wsV RX7 87 RX6 yX6_noted wsX6_noted) := goodIn_app (goodIn_of _ (by decide +kernel)) ggX7_at_X6_noted
set_option maxRecDepth 20000 in
theorem ggX7_image_X5_isImage : GoodIn wsX7_image wsX5_isImage := goodIn_r _ [8, 9, 50, 51, 52, 53, 54, 55, 56, 57, 58, 59] (by decide +kernel) (by decide +kernel)
set_option maxRecDepth 20000 in
theorem gX7_image_X5_isImage : GoodIn wsX7_image (wsV RX7 122 RX5 yX5_isImage wsX5_isImage) := goodIn_app (goodIn_of _ (by decide +kernel)) ggX7_image_X5_isImage
set_option maxRecDepth 20000 in
theorem ggX7_image_X0_imageAt : GoodIn wsX7_image wsX0_imageAt := goodIn_r _ [14, 15, 60, 61, 62, 63] (by decide +kernel) (by decide +kernel)
set_option maxRecDepth 20000 in
theorem gX7_image_X0_imageAt : GoodIn wsX7_image (wsV RX7 125 RX0 yX0_imageAt wsX0_imageAt) := goodIn_app (goodIn_of _ (by decide +kernel)) ggX7_image_X0_imageAt
set_option maxRecDepth 20000 in
theorem ggX7_image_X1_property : GoodIn wsX7_image wsX1_property := goodIn_r _ [20, 21, 22, 23, 24, 19, 25, 26, 27, 28, 29, 30, 31, 32, 33, 34, 64, 65, 66] (by decide +kernel) (by decide +kernel)
set_option maxRecDepth 20000 in
theorem gX7_image_X1_property : GoodIn wsX7_image (wsV RX7 129 RX1 yX1_property wsX1_property) := goodIn_app (goodIn_of _ (by decide +kernel)) ggX7_image_X1_property
set_option maxRecDepth 20000 in
theorem ggX7_image_X6_noted : GoodIn wsX7_image wsX6_noted := goodIn_r _ [39, 40, 41, 42, 43, 67, 68, 69, 70] (by decide +kernel) (by decide +kernel)
set_option maxRecDepth 20000 in
theorem gX7_image_X6_noted : GoodIn wsX7_image (wsV RX7 87 RX6 yX6_noted wsX6_noted) := goodIn_app (goodIn_of _ (by decide +kernel)) ggX7_image_X6_noted
set_option maxRecDepth 20000 in
theorem ggX7_imaged_X5_isImage : GoodIn wsX7_imaged wsX5_isImage := goodIn_r _ [8, 9, 47, 48, 49, 50, 51, 52, 53, 54, 55, 56] (by decide +kernel) (by decide +kernel)
set_option maxRecDepth 20000 in
theorem gX7_imaged_X5_isImage : GoodIn wsX7_imaged (wsV RX7 122 RX5 yX5_isImage wsX5_isImage) := goodIn_app (goodIn_of _ (by decide +kernel)) ggX7_imaged_X5_isImage
set_option maxRecDepth 20000 in
theorem ggX7_imaged_X6_noted : GoodIn wsX7_imaged wsX6_noted := goodIn_r _ [14, 15, 16, 17, 18, 57, 58, 59, 60] (by decide +kernel) (by decide +kernel)
set_option maxRecDepth 20000 in
theorem gX7_imaged_X6_noted : GoodIn wsX7_imaged (wsV RX7 87 RX6 yX6_noted wsX6_noted) := goodIn_app (goodIn_of _ (by decide +kernel)) ggX7_imaged_X6_noted
set_option maxRecDepth 20000 in
theorem ggX7_imaged_X0_imageAt : GoodIn wsX7_imaged wsX0_imageAt := goodIn_r _ [23, 24, 61, 62, 63, 64] (by decide +kernel) (by decide +kernel)
set_option maxRecDepth 20000 in
theorem gX7_imaged_X0_imageAt : GoodIn wsX7_imaged (wsV RX7 125 RX0 yX0_imageAt wsX0_imageAt) := goodIn_app (goodIn_of _ (by decide +kernel)) ggX7_imaged_X0_imageAt
set_option maxRecDepth 20000 in
theorem ggX7_imaged_X1_isNode : GoodIn wsX7_imaged wsX1_isNode := goodIn_r _ [29, 30, 65, 66, 67] (by decide +kernel) (by decide +kernel)
set_option maxRecDepth 20000 in
theorem gX7_imaged_X1_isNode : GoodIn wsX7_imaged (wsV RX7 134 RX1 yX1_isNode wsX1_isNode) := goodIn_app (goodIn_of _ (by decide +kernel)) ggX7_imaged_X1_isNode
set_option maxRecDepth 20000 in
theorem ggX7_imaged_X1_sizeOf : GoodIn wsX7_imaged wsX1_sizeOf := goodIn_r _ [34, 35, 65, 66, 67] (by decide +kernel) (by decide +kernel)
set_option maxRecDepth 20000 in
theorem gX7_imaged_X1_sizeOf : GoodIn wsX7_imaged (wsV RX7 137 RX1 yX1_sizeOf wsX1_sizeOf) := goodIn_app (goodIn_of _ (by decide +kernel)) ggX7_imaged_X1_sizeOf
set_option maxRecDepth 20000 in
theorem ggX7_imaged_X1_cellAt : GoodIn wsX7_imaged wsX1_cellAt := goodIn_r _ [39, 40, 65, 66, 67] (by decide +kernel) (by decide +kernel)
set_option maxRecDepth 20000 in
theorem gX7_imaged_X1_cellAt : GoodIn wsX7_imaged (wsV RX7 138 RX1 yX1_cellAt wsX1_cellAt) := goodIn_app (goodIn_of _ (by decide +kernel)) ggX7_imaged_X1_cellAt
set_option maxRecDepth 20000 in
theorem ggX7_like_X5_isBlock : GoodIn wsX7_like wsX5_isBlock := goodIn_r _ [9, 10, 108, 109, 110, 111, 112, 113, 114, 115, 116, 117] (by decide +kernel) (by decide +kernel)
set_option maxRecDepth 20000 in
theorem gX7_like_X5_isBlock : GoodIn wsX7_like (wsV RX7 105 RX5 yX5_isBlock wsX5_isBlock) := goodIn_app (goodIn_of _ (by decide +kernel)) ggX7_like_X5_isBlock
set_option maxRecDepth 20000 in
theorem ggX7_like_X6_noted : GoodIn wsX7_like wsX6_noted := goodIn_r _ [15, 16, 17, 18, 19, 118, 119, 120, 121] (by decide +kernel) (by decide +kernel)
set_option maxRecDepth 20000 in
theorem gX7_like_X6_noted : GoodIn wsX7_like (wsV RX7 87 RX6 yX6_noted wsX6_noted) := goodIn_app (goodIn_of _ (by decide +kernel)) ggX7_like_X6_noted
set_option maxRecDepth 20000 in
theorem ggX7_like_X0_reach : GoodIn wsX7_like wsX0_reach := goodIn_r _ [24, 25, 26, 27, 28, 29, 30, 23, 31, 32, 33, 34, 35, 36, 37, 38, 8, 39, 40, 41, 42, 43, 44, 45, 46, 47, 48, 49, 50, 122, 123, 124, 125, 108, 109, 110, 111, 112, 113, 114, 115, 116, 117] (by decide +kernel) (by decide +kernel)
set_option maxRecDepth 20000 in
theorem gX7_like_X0_reach : GoodIn wsX7_like (wsV RX7 109 RX0 yX0_reach wsX0_reach) := goodIn_app (goodIn_of _ (by decide +kernel)) ggX7_like_X0_reach
set_option maxRecDepth 20000 in
theorem ggX7_like_X0_allReachedLive : GoodIn wsX7_like wsX0_allReachedLive := goodIn_r _ [54, 26, 27, 55, 56, 57, 8, 58, 59, 122, 123, 124, 125, 108, 109, 110, 111, 112, 113, 114, 115, 116, 117] (by decide +kernel) (by decide +kernel)
set_option maxRecDepth 20000 in
theorem gX7_like_X0_allReachedLive : GoodIn wsX7_like (wsV RX7 139 RX0 yX0_allReachedLive wsX0_allReachedLive) := goodIn_app (goodIn_of _ (by decide +kernel)) ggX7_like_X0_allReachedLive
set_option maxRecDepth 20000 in
theorem ggX7_like_X0_draw : GoodIn wsX7_like wsX0_draw := goodIn_r _ [63, 64, 26, 27, 65, 66, 67, 23, 68, 69, 70, 71, 72, 73, 74, 75, 36, 37, 38, 8, 39, 40, 76, 77, 78, 79, 80, 41, 42, 43, 44, 45, 81, 82, 83, 84, 25, 46, 47, 48, 49, 50, 85, 86, 87, 88, 89, 90, 91, 92, 93, 108, 109, 110, 111, 112, 113, 114, 115, 116, 117, 122, 123, 124, 125, 126, 127, 128] (by decide +kernel) (by decide +kernel)
set_option maxRecDepth 20000 in
theorem gX7_like_X0_draw : GoodIn wsX7_like (wsV RX7 143 RX0 yX0_draw wsX0_draw) := goodIn_app (goodIn_of _ (by decide +kernel)) ggX7_like_X0_draw
set_option maxRecDepth 20000 in
theorem ggX7_like_X0_indexOfDrawn : GoodIn wsX7_like wsX0_indexOfDrawn := goodIn_r _ [97, 64, 65, 66, 67, 23, 68, 69, 98, 99, 100, 73, 101, 75, 80, 93, 108, 109, 110, 111, 112, 113, 114, 115, 116, 117, 122, 123, 124, 125, 126, 127, 128] (by decide +kernel) (by decide +kernel)
set_option maxRecDepth 20000 in
theorem gX7_like_X0_indexOfDrawn : GoodIn wsX7_like (wsV RX7 146 RX0 yX0_indexOfDrawn wsX0_indexOfDrawn) := goodIn_app (goodIn_of _ (by decide +kernel)) ggX7_like_X0_indexOfDrawn
set_option maxRecDepth 20000 in
theorem ggX7_count_X7_counted : GoodIn wsX7_count wsX7_counted := goodIn_r _ [6, 7, 8, 9, 10, 1, 11, 12, 13, 14, 15, 16, 17, 18, 19, 20, 21, 22, 23, 24, 25, 26, 27, 28, 29, 30, 31, 32, 33, 34, 42, 43, 44, 45, 46, 47, 48, 49, 50, 51, 52, 53, 54, 55, 56, 57, 58, 59, 60, 61, 62, 63, 64, 65, 66, 67, 68, 69, 70, 71, 72, 73, 74] (by decide +kernel) (by decide +kernel)
