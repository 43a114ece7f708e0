set_option maxRecDepth 20000 in
theorem ggX0_init_X1_init : GoodIn wsX0_init wsX1_init := goodIn_r _ [13, 14, 2, 3, 8, 15, 16, 21, 22, 23] (by decide +kernel) (by decide +kernel)
set_option maxRecDepth 20000 in
theorem gX0_init_X1_init : GoodIn wsX0_init (wsX1_init) := ggX0_init_X1_init
set_option maxRecDepth 20000 in
theorem ggX0_reach_X0_addReached : GoodIn wsX0_reach wsX0_addReached := goodIn_r _ [8, 1, 2, 3, 29, 30, 31, 32] (by decide +kernel) (by decide +kernel)
set_option maxRecDepth 20000 in
theorem gX0_reach_X0_addReached : GoodIn wsX0_reach (wsV RX0 29 RX0 yX0_addReached wsX0_addReached) := goodIn_app (goodIn_of _ (by decide +kernel)) ggX0_reach_X0_addReached
set_option maxRecDepth 20000 in
theorem ggX0_reach_X0_addTargets : GoodIn wsX0_reach wsX0_addTargets := goodIn_r _ [12, 13, 14, 15, 16, 17, 18, 19, 20, 21, 22, 23, 24, 25, 26, 27, 28, 4, 5, 6, 7, 8, 1, 2, 3, 33, 34, 35, 36, 37, 38, 39, 40, 41, 42, 29, 30, 31, 32] (by decide +kernel) (by decide +kernel)
set_option maxRecDepth 20000 in
theorem gX0_reach_X0_addTargets : GoodIn wsX0_reach (wsV RX0 33 RX0 yX0_addTargets wsX0_addTargets) := goodIn_app (goodIn_of _ (by decide +kernel)) ggX0_reach_X0_addTargets
set_option maxRecDepth 20000 in
theorem ggX0_addTargets_X5_sizeOf : GoodIn wsX0_addTargets wsX5_sizeOf := goodIn_r _ [5, 6, 25, 26, 27, 28, 29, 30, 31, 32, 33, 34] (by decide +kernel) (by decide +kernel)
set_option maxRecDepth 20000 in
theorem gX0_addTargets_X5_sizeOf : GoodIn wsX0_addTargets (wsV RX0 37 RX5 yX5_sizeOf wsX5_sizeOf) := goodIn_app (goodIn_of _ (by decide +kernel)) ggX0_addTargets_X5_sizeOf
set_option maxRecDepth 20000 in
theorem ggX0_addTargets_X5_cellAt : GoodIn wsX0_addTargets wsX5_cellAt := goodIn_r _ [10, 11, 25, 26, 27, 28, 29, 30, 31, 32, 33, 34] (by decide +kernel) (by decide +kernel)
set_option maxRecDepth 20000 in
theorem gX0_addTargets_X5_cellAt : GoodIn wsX0_addTargets (wsV RX0 43 RX5 yX5_cellAt wsX5_cellAt) := goodIn_app (goodIn_of _ (by decide +kernel)) ggX0_addTargets_X5_cellAt
set_option maxRecDepth 20000 in
theorem ggX0_addTargets_X7_isPointerCode : GoodIn wsX0_addTargets wsX7_isPointerCode := goodIn_r _ [14] (by decide +kernel) (by decide +kernel)
set_option maxRecDepth 20000 in
theorem gX0_addTargets_X7_isPointerCode_n47 : GoodIn wsX0_addTargets (wsX7_isPointerCode) := ggX0_addTargets_X7_isPointerCode
set_option maxRecDepth 20000 in
theorem ggX0_addTargets_X7_blockOfCode : GoodIn wsX0_addTargets wsX7_blockOfCode := goodIn_r _ [16] (by decide +kernel) (by decide +kernel)
set_option maxRecDepth 20000 in
theorem gX0_addTargets_X7_blockOfCode_n51 : GoodIn wsX0_addTargets (wsX7_blockOfCode) := ggX0_addTargets_X7_blockOfCode
set_option maxRecDepth 20000 in
theorem ggX0_addTargets_X0_addReached : GoodIn wsX0_addTargets wsX0_addReached := goodIn_r _ [21, 22, 23, 24, 35, 36, 37, 38] (by decide +kernel) (by decide +kernel)
set_option maxRecDepth 20000 in
theorem gX0_addTargets_X0_addReached : GoodIn wsX0_addTargets (wsV RX0 29 RX0 yX0_addReached wsX0_addReached) := goodIn_app (goodIn_of _ (by decide +kernel)) ggX0_addTargets_X0_addReached
set_option maxRecDepth 20000 in
theorem ggX0_allReachedLive_X5_isLive : GoodIn wsX0_allReachedLive wsX5_isLive := goodIn_r _ [7, 8, 13, 14, 15, 16, 17, 18, 19, 20, 21, 22] (by decide +kernel) (by decide +kernel)
set_option maxRecDepth 20000 in
theorem gX0_allReachedLive_X5_isLive : GoodIn wsX0_allReachedLive (wsV RX0 54 RX5 yX5_isLive wsX5_isLive) := goodIn_app (goodIn_of _ (by decide +kernel)) ggX0_allReachedLive_X5_isLive
set_option maxRecDepth 20000 in
theorem ggX0_markReachedConstant_X5_markConstant : GoodIn wsX0_markReachedConstant wsX5_markConstant := goodIn_r _ [7, 8, 13, 14, 15, 16, 17, 18, 19, 20, 21, 22] (by decide +kernel) (by decide +kernel)
set_option maxRecDepth 20000 in
theorem gX0_markReachedConstant_X5_markConstant : GoodIn wsX0_markReachedConstant (wsV RX0 57 RX5 yX5_markConstant wsX5_markConstant) := goodIn_app (goodIn_of _ (by decide +kernel)) ggX0_markReachedConstant_X5_markConstant
set_option maxRecDepth 20000 in
theorem ggX0_draw_X0_imageAt : GoodIn wsX0_draw wsX0_imageAt := goodIn_r _ [8, 9, 61, 62, 63, 64] (by decide +kernel) (by decide +kernel)
set_option maxRecDepth 20000 in
theorem gX0_draw_X0_imageAt : GoodIn wsX0_draw (wsV RX0 62 RX0 yX0_imageAt wsX0_imageAt) := goodIn_app (goodIn_of _ (by decide +kernel)) ggX0_draw_X0_imageAt
set_option maxRecDepth 20000 in
theorem ggX0_draw_X1_begin : GoodIn wsX0_draw wsX1_begin := goodIn_r _ [14, 15, 65, 66, 67] (by decide +kernel) (by decide +kernel)
set_option maxRecDepth 20000 in
theorem gX0_draw_X1_begin : GoodIn wsX0_draw (wsV RX0 66 RX1 yX1_begin wsX1_begin) := goodIn_app (goodIn_of _ (by decide +kernel)) ggX0_draw_X1_begin
set_option maxRecDepth 20000 in
theorem ggX0_draw_X5_sizeOf : GoodIn wsX0_draw wsX5_sizeOf := goodIn_r _ [20, 21, 51, 52, 53, 54, 55, 56, 57, 58, 59, 60] (by decide +kernel) (by decide +kernel)
set_option maxRecDepth 20000 in
theorem gX0_draw_X5_sizeOf : GoodIn wsX0_draw (wsV RX0 37 RX5 yX5_sizeOf wsX5_sizeOf) := goodIn_app (goodIn_of _ (by decide +kernel)) ggX0_draw_X5_sizeOf
set_option maxRecDepth 20000 in
theorem ggX0_draw_X1_addNode : GoodIn wsX0_draw wsX1_addNode := goodIn_r _ [25, 15, 26, 65, 66, 67] (by decide +kernel) (by decide +kernel)
set_option maxRecDepth 20000 in
theorem gX0_draw_X1_addNode : GoodIn wsX0_draw (wsV RX0 69 RX1 yX1_addNode wsX1_addNode) := goodIn_app (goodIn_of _ (by decide +kernel)) ggX0_draw_X1_addNode
set_option maxRecDepth 20000 in
theorem ggX0_draw_X5_cellAt : GoodIn wsX0_draw wsX5_cellAt := goodIn_r _ [30, 31, 51, 52, 53, 54, 55, 56, 57, 58, 59, 60] (by decide +kernel) (by decide +kernel)
set_option maxRecDepth 20000 in
theorem gX0_draw_X5_cellAt : GoodIn wsX0_draw (wsV RX0 43 RX5 yX5_cellAt wsX5_cellAt) := goodIn_app (goodIn_of _ (by decide +kernel)) ggX0_draw_X5_cellAt
set_option maxRecDepth 20000 in
theorem ggX0_draw_X0_codeInImage : GoodIn wsX0_draw wsX0_codeInImage := goodIn_r _ [35, 36, 37, 38, 39, 40, 41, 42, 43, 44, 45, 61, 62, 63, 64] (by decide +kernel) (by decide +kernel)
set_option maxRecDepth 20000 in
theorem gX0_draw_X0_codeInImage : GoodIn wsX0_draw (wsV RX0 72 RX0 yX0_codeInImage wsX0_codeInImage) := goodIn_app (goodIn_of _ (by decide +kernel)) ggX0_draw_X0_codeInImage
set_option maxRecDepth 20000 in
theorem ggX0_draw_X1_putCell : GoodIn wsX0_draw wsX1_putCell := goodIn_r _ [49, 50, 65, 66, 67] (by decide +kernel) (by decide +kernel)
set_option maxRecDepth 20000 in
theorem gX0_draw_X1_putCell : GoodIn wsX0_draw (wsV RX0 75 RX1 yX1_putCell wsX1_putCell) := goodIn_app (goodIn_of _ (by decide +kernel)) ggX0_draw_X1_putCell
set_option maxRecDepth 20000 in
theorem ggX0_indexOfDrawn_X0_imageAt : GoodIn wsX0_indexOfDrawn wsX0_imageAt := goodIn_r _ [6, 7, 26, 27, 28, 29] (by decide +kernel) (by decide +kernel)
set_option maxRecDepth 20000 in
theorem gX0_indexOfDrawn_X0_imageAt : GoodIn wsX0_indexOfDrawn (wsV RX0 62 RX0 yX0_imageAt wsX0_imageAt) := goodIn_app (goodIn_of _ (by decide +kernel)) ggX0_indexOfDrawn_X0_imageAt
set_option maxRecDepth 20000 in
theorem ggX0_indexOfDrawn_X1_isSameAs : GoodIn wsX0_indexOfDrawn wsX1_isSameAs := goodIn_r _ [12, 13, 14, 15, 30, 31, 32] (by decide +kernel) (by decide +kernel)
set_option maxRecDepth 20000 in
theorem gX0_indexOfDrawn_X1_isSameAs : GoodIn wsX0_indexOfDrawn (wsV RX0 79 RX1 yX1_isSameAs wsX1_isSameAs) := goodIn_app (goodIn_of _ (by decide +kernel)) ggX0_indexOfDrawn_X1_isSameAs
set_option maxRecDepth 20000 in
theorem ggX0_codeInImage_X7_isPointerCode : GoodIn wsX0_codeInImage wsX7_isPointerCode := goodIn_r _ [4] (by decide +kernel) (by decide +kernel)
set_option maxRecDepth 20000 in
theorem gX0_codeInImage_X7_isPointerCode_n47 : GoodIn wsX0_codeInImage (wsX7_isPointerCode) := ggX0_codeInImage_X7_isPointerCode
set_option maxRecDepth 20000 in
theorem ggX0_codeInImage_X7_blockOfCode : GoodIn wsX0_codeInImage wsX7_blockOfCode := goodIn_r _ [6] (by decide +kernel) (by decide +kernel)
set_option maxRecDepth 20000 in
theorem gX0_codeInImage_X7_blockOfCode_n51 : GoodIn wsX0_codeInImage (wsX7_blockOfCode) := ggX0_codeInImage_X7_blockOfCode
set_option maxRecDepth 20000 in
theorem ggX0_codeInImage_X7_offsetOfCode : GoodIn wsX0_codeInImage wsX7_offsetOfCode := goodIn_r _ [8] (by decide +kernel) (by decide +kernel)
set_option maxRecDepth 20000 in
theorem gX0_codeInImage_X7_offsetOfCode_n83 : GoodIn wsX0_codeInImage (wsX7_offsetOfCode) := ggX0_codeInImage_X7_offsetOfCode
set_option maxRecDepth 20000 in
theorem ggX0_codeInImage_X7_pointerCode : GoodIn wsX0_codeInImage wsX7_pointerCode := goodIn_r _ [10] (by decide +kernel) (by decide +kernel)
set_option maxRecDepth 20000 in
theorem gX0_codeInImage_X7_pointerCode_n86 : GoodIn wsX0_codeInImage (wsX7_pointerCode) := ggX0_codeInImage_X7_pointerCode
set_option maxRecDepth 20000 in
theorem ggX1_property_X1_sizeOf : GoodIn wsX1_property wsX1_sizeOf := goodIn_r _ [6, 7, 16, 17, 18] (by decide +kernel) (by decide +kernel)
set_option maxRecDepth 20000 in
theorem gX1_property_X1_sizeOf : GoodIn wsX1_property (wsV RX1 22 RX1 yX1_sizeOf wsX1_sizeOf) := goodIn_app (goodIn_of _ (by decide +kernel)) ggX1_property_X1_sizeOf
set_option maxRecDepth 20000 in
theorem ggX1_property_X1_cellAt : GoodIn wsX1_property wsX1_cellAt := goodIn_r _ [11, 12, 16, 17, 18] (by decide +kernel) (by decide +kernel)
set_option maxRecDepth 20000 in
theorem gX1_property_X1_cellAt : GoodIn wsX1_property (wsV RX1 26 RX1 yX1_cellAt wsX1_cellAt) := goodIn_app (goodIn_of _ (by decide +kernel)) ggX1_property_X1_cellAt
set_option maxRecDepth 20000 in
theorem ggX1_property_X7_isPointerCode : GoodIn wsX1_property wsX7_isPointerCode := goodIn_r _ [15] (by decide +kernel) (by decide +kernel)
set_option maxRecDepth 20000 in
theorem gX1_property_X7_isPointerCode_n30 : GoodIn wsX1_property (wsX7_isPointerCode) := ggX1_property_X7_isPointerCode
set_option maxRecDepth 20000 in
theorem ggX2_makeBlock_X7_isRegister : GoodIn wsX2_makeBlock wsX7_isRegister := goodIn_r _ [5] (by decide +kernel) (by decide +kernel)
set_option maxRecDepth 20000 in
theorem gX2_makeBlock_X7_isRegister_n23 : GoodIn wsX2_makeBlock (wsX7_isRegister) := ggX2_makeBlock_X7_isRegister
set_option maxRecDepth 20000 in
theorem ggX2_makeBlock_X5_addBlock : GoodIn wsX2_makeBlock wsX5_addBlock := goodIn_r _ [10, 11, 12, 13, 14, 15, 16, 17, 9, 18, 19, 34, 35, 36, 37, 38, 39, 40, 41, 42, 43] (by decide +kernel) (by decide +kernel)
set_option maxRecDepth 20000 in
theorem gX2_makeBlock_X5_addBlock : GoodIn wsX2_makeBlock (wsV RX2 33 RX5 yX5_addBlock wsX5_addBlock) := goodIn_app (goodIn_of _ (by decide +kernel)) ggX2_makeBlock_X5_addBlock
set_option maxRecDepth 20000 in
theorem ggX2_makeBlock_X5_fillWithPointer : GoodIn wsX2_makeBlock wsX5_fillWithPointer := goodIn_r _ [23, 24, 25, 26, 9, 27, 28, 29, 30, 34, 35, 36, 37, 38, 39, 40, 41, 42, 43] (by decide +kernel) (by decide +kernel)
set_option maxRecDepth 20000 in
theorem gX2_makeBlock_X5_fillWithPointer : GoodIn wsX2_makeBlock (wsV RX2 37 RX5 yX5_fillWithPointer wsX5_fillWithPointer) := goodIn_app (goodIn_of _ (by decide +kernel)) ggX2_makeBlock_X5_fillWithPointer
set_option maxRecDepth 20000 in
theorem ggX2_endBlock_X7_isRegister : GoodIn wsX2_endBlock wsX7_isRegister := goodIn_r _ [4] (by decide +kernel) (by decide +kernel)
set_option maxRecDepth 20000 in
theorem gX2_endBlock_X7_isRegister_n23 : GoodIn wsX2_endBlock (wsX7_isRegister) := ggX2_endBlock_X7_isRegister
set_option maxRecDepth 20000 in
theorem ggX2_endBlock_X2_faultAsBegin : GoodIn wsX2_endBlock wsX2_faultAsBegin := goodIn_r _ [9, 1, 10, 11, 12, 8, 13, 14, 15, 16, 17, 18, 19, 20, 21, 22, 23, 24, 25, 26, 27, 28, 29, 30, 31, 32, 33, 34, 44, 45, 46, 47, 48, 49, 50, 51, 52, 53, 54, 55, 56] (by decide +kernel) (by decide +kernel)
set_option maxRecDepth 20000 in
theorem gX2_endBlock_X2_faultAsBegin : GoodIn wsX2_endBlock (wsV RX2 41 RX2 yX2_faultAsBegin wsX2_faultAsBegin) := goodIn_app (goodIn_of _ (by decide +kernel)) ggX2_endBlock_X2_faultAsBegin
set_option maxRecDepth 20000 in
theorem ggX2_endBlock_X5_valueOf : GoodIn wsX2_endBlock wsX5_valueOf := goodIn_r _ [23, 24, 47, 48, 49, 50, 51, 52, 53, 54, 55, 56] (by decide +kernel) (by decide +kernel)
set_option maxRecDepth 20000 in
theorem gX2_endBlock_X5_valueOf : GoodIn wsX2_endBlock (wsV RX2 45 RX5 yX5_valueOf wsX5_valueOf) := goodIn_app (goodIn_of _ (by decide +kernel)) ggX2_endBlock_X5_valueOf
set_option maxRecDepth 20000 in
theorem ggX2_endBlock_X5_isConstant : GoodIn wsX2_endBlock wsX5_isConstant := goodIn_r _ [38, 39, 47, 48, 49, 50, 51, 52, 53, 54, 55, 56] (by decide +kernel) (by decide +kernel)
set_option maxRecDepth 20000 in
theorem gX2_endBlock_X5_isConstant : GoodIn wsX2_endBlock (wsV RX2 48 RX5 yX5_isConstant wsX5_isConstant) := goodIn_app (goodIn_of _ (by decide +kernel)) ggX2_endBlock_X5_isConstant
set_option maxRecDepth 20000 in
theorem ggX2_endBlock_X5_markEnded : GoodIn wsX2_endBlock wsX5_markEnded := goodIn_r _ [43, 29, 47, 48, 49, 50, 51, 52, 53, 54, 55, 56] (by decide +kernel) (by decide +kernel)
set_option maxRecDepth 20000 in
theorem gX2_endBlock_X5_markEnded : GoodIn wsX2_endBlock (wsV RX2 51 RX5 yX5_markEnded wsX5_markEnded) := goodIn_app (goodIn_of _ (by decide +kernel)) ggX2_endBlock_X5_markEnded
set_option maxRecDepth 20000 in
theorem ggX2_setNumber_X7_isRegister : GoodIn wsX2_setNumber wsX7_isRegister := goodIn_r _ [5] (by decide +kernel) (by decide +kernel)
set_option maxRecDepth 20000 in
theorem gX2_setNumber_X7_isRegister_n23 : GoodIn wsX2_setNumber (wsX7_isRegister) := ggX2_setNumber_X7_isRegister
set_option maxRecDepth 20000 in
theorem ggX2_setNumber_X5_fillWithNumber : GoodIn wsX2_setNumber wsX5_fillWithNumber := goodIn_r _ [10, 11, 12, 13, 9, 14, 15, 16, 17, 21, 22, 23, 24, 25, 26, 27, 28, 29, 30] (by decide +kernel) (by decide +kernel)
set_option maxRecDepth 20000 in
theorem gX2_setNumber_X5_fillWithNumber : GoodIn wsX2_setNumber (wsV RX2 55 RX5 yX5_fillWithNumber wsX5_fillWithNumber) := goodIn_app (goodIn_of _ (by decide +kernel)) ggX2_setNumber_X5_fillWithNumber
set_option maxRecDepth 20000 in
theorem ggX2_copyRegister_X7_isRegister : GoodIn wsX2_copyRegister wsX7_isRegister := goodIn_r _ [4] (by decide +kernel) (by decide +kernel)
set_option maxRecDepth 20000 in
theorem gX2_copyRegister_X7_isRegister_n23 : GoodIn wsX2_copyRegister (wsX7_isRegister) := ggX2_copyRegister_X7_isRegister
set_option maxRecDepth 20000 in
theorem ggX2_copyRegister_X5_kindOf : GoodIn wsX2_copyRegister wsX5_kindOf := goodIn_r _ [9, 10, 28, 29, 30, 31, 32, 33, 34, 35, 36, 37] (by decide +kernel) (by decide +kernel)
set_option maxRecDepth 20000 in
theorem gX2_copyRegister_X5_kindOf : GoodIn wsX2_copyRegister (wsV RX2 59 RX5 yX5_kindOf wsX5_kindOf) := goodIn_app (goodIn_of _ (by decide +kernel)) ggX2_copyRegister_X5_kindOf
set_option maxRecDepth 20000 in
theorem ggX2_copyRegister_X5_valueOf : GoodIn wsX2_copyRegister wsX5_valueOf := goodIn_r _ [14, 15, 28, 29, 30, 31, 32, 33, 34, 35, 36, 37] (by decide +kernel) (by decide +kernel)
set_option maxRecDepth 20000 in
theorem gX2_copyRegister_X5_valueOf : GoodIn wsX2_copyRegister (wsV RX2 45 RX5 yX5_valueOf wsX5_valueOf) := goodIn_app (goodIn_of _ (by decide +kernel)) ggX2_copyRegister_X5_valueOf
set_option maxRecDepth 20000 in
theorem ggX2_copyRegister_X5_offsetOf : GoodIn wsX2_copyRegister wsX5_offsetOf := goodIn_r _ [19, 20, 28, 29, 30, 31, 32, 33, 34, 35, 36, 37] (by decide +kernel) (by decide +kernel)
set_option maxRecDepth 20000 in
theorem gX2_copyRegister_X5_offsetOf : GoodIn wsX2_copyRegister (wsV RX2 62 RX5 yX5_offsetOf wsX5_offsetOf) := goodIn_app (goodIn_of _ (by decide +kernel)) ggX2_copyRegister_X5_offsetOf
set_option maxRecDepth 20000 in
theorem ggX2_copyRegister_X5_fillRegister : GoodIn wsX2_copyRegister wsX5_fillRegister := goodIn_r _ [24, 10, 15, 20, 28, 29, 30, 31, 32, 33, 34, 35, 36, 37] (by decide +kernel) (by decide +kernel)
set_option maxRecDepth 20000 in
theorem gX2_copyRegister_X5_fillRegister : GoodIn wsX2_copyRegister (wsV RX2 65 RX5 yX5_fillRegister wsX5_fillRegister) := goodIn_app (goodIn_of _ (by decide +kernel)) ggX2_copyRegister_X5_fillRegister
set_option maxRecDepth 20000 in
theorem ggX2_forgetRegister_X7_isRegister : GoodIn wsX2_forgetRegister wsX7_isRegister := goodIn_r _ [4] (by decide +kernel) (by decide +kernel)
set_option maxRecDepth 20000 in
theorem gX2_forgetRegister_X7_isRegister_n23 : GoodIn wsX2_forgetRegister (wsX7_isRegister) := ggX2_forgetRegister_X7_isRegister
set_option maxRecDepth 20000 in
theorem ggX2_forgetRegister_X5_kindOf : GoodIn wsX2_forgetRegister wsX5_kindOf := goodIn_r _ [9, 10, 20, 21, 22, 23, 24, 25, 26, 27, 28, 29] (by decide +kernel) (by decide +kernel)
set_option maxRecDepth 20000 in
theorem gX2_forgetRegister_X5_kindOf : GoodIn wsX2_forgetRegister (wsV RX2 59 RX5 yX5_kindOf wsX5_kindOf) := goodIn_app (goodIn_of _ (by decide +kernel)) ggX2_forgetRegister_X5_kindOf
set_option maxRecDepth 20000 in
theorem ggX2_forgetRegister_X5_fillRegister : GoodIn wsX2_forgetRegister wsX5_fillRegister := goodIn_r _ [14, 10, 15, 16, 20, 21, 22, 23, 24, 25, 26, 27, 28, 29] (by decide +kernel) (by decide +kernel)
set_option maxRecDepth 20000 in
theorem gX2_forgetRegister_X5_fillRegister : GoodIn wsX2_forgetRegister (wsV RX2 65 RX5 yX5_fillRegister wsX5_fillRegister) := goodIn_app (goodIn_of _ (by decide +kernel)) ggX2_forgetRegister_X5_fillRegister
set_option maxRecDepth 20000 in
theorem ggX2_moveRegister_X7_isRegister : GoodIn wsX2_moveRegister wsX7_isRegister := goodIn_r _ [4] (by decide +kernel) (by decide +kernel)
set_option maxRecDepth 20000 in
theorem gX2_moveRegister_X7_isRegister_n23 : GoodIn wsX2_moveRegister (wsX7_isRegister) := ggX2_moveRegister_X7_isRegister
set_option maxRecDepth 20000 in
theorem ggX2_moveRegister_X5_kindOf : GoodIn wsX2_moveRegister wsX5_kindOf := goodIn_r _ [9, 10, 60, 61, 62, 63, 64, 65, 66, 67, 68, 69] (by decide +kernel) (by decide +kernel)
set_option maxRecDepth 20000 in
theorem gX2_moveRegister_X5_kindOf : GoodIn wsX2_moveRegister (wsV RX2 59 RX5 yX5_kindOf wsX5_kindOf) := goodIn_app (goodIn_of _ (by decide +kernel)) ggX2_moveRegister_X5_kindOf
set_option maxRecDepth 20000 in
theorem ggX2_moveRegister_X2_moveNumber : GoodIn wsX2_moveRegister wsX2_moveNumber := goodIn_r _ [15, 1, 16, 17, 18, 19, 8, 20, 21, 22, 23, 24, 25, 26, 27, 28, 29, 30, 31, 32, 33, 10, 34, 57, 58, 59, 60, 61, 62, 63, 64, 65, 66, 67, 68, 69] (by decide +kernel) (by decide +kernel)
set_option maxRecDepth 20000 in
theorem gX2_moveRegister_X2_moveNumber : GoodIn wsX2_moveRegister (wsV RX2 72 RX2 yX2_moveNumber wsX2_moveNumber) := goodIn_app (goodIn_of _ (by decide +kernel)) ggX2_moveRegister_X2_moveNumber
set_option maxRecDepth 20000 in
theorem ggX2_moveRegister_X2_movePointer : GoodIn wsX2_moveRegister wsX2_movePointer := goodIn_r _ [38, 1, 17, 18, 19, 8, 20, 21, 39, 40, 41, 42, 43, 44, 45, 46, 47, 34, 48, 49, 50, 51, 52, 53, 54, 55, 56, 30, 31, 32, 33, 10, 57, 58, 59, 60, 61, 62, 63, 64, 65, 66, 67, 68, 69] (by decide +kernel) (by decide +kernel)
set_option maxRecDepth 20000 in
theorem gX2_moveRegister_X2_movePointer : GoodIn wsX2_moveRegister (wsV RX2 76 RX2 yX2_movePointer wsX2_movePointer) := goodIn_app (goodIn_of _ (by decide +kernel)) ggX2_moveRegister_X2_movePointer
set_option maxRecDepth 20000 in
theorem ggX2_moveNumber_X5_valueOf : GoodIn wsX2_moveNumber wsX5_valueOf := goodIn_r _ [7, 8, 26, 27, 28, 29, 30, 31, 32, 33, 34, 35] (by decide +kernel) (by decide +kernel)
set_option maxRecDepth 20000 in
theorem gX2_moveNumber_X5_valueOf : GoodIn wsX2_moveNumber (wsV RX2 45 RX5 yX5_valueOf wsX5_valueOf) := goodIn_app (goodIn_of _ (by decide +kernel)) ggX2_moveNumber_X5_valueOf
set_option maxRecDepth 20000 in
theorem ggX2_moveNumber_J9_floorMod_7cf53 : GoodIn wsX2_moveNumber wsJ9_floorMod_7cf53 := goodIn_r _ [12] (by decide +kernel) (by decide +kernel)
set_option maxRecDepth 20000 in
theorem gX2_moveNumber_J9_floorMod_7cf53 : GoodIn wsX2_moveNumber (va_wsS RX2 79 yJ9_floorMod_7cf53 wsJ9_floorMod_7cf53) := goodIn_app (goodIn_of _ (by decide +kernel)) ggX2_moveNumber_J9_floorMod_7cf53
set_option maxRecDepth 20000 in
theorem ggX2_moveNumber_X5_fillWithNumber : GoodIn wsX2_moveNumber wsX5_fillWithNumber := goodIn_r _ [16, 17, 18, 19, 6, 20, 21, 8, 22, 26, 27, 28, 29, 30, 31, 32, 33, 34, 35] (by decide +kernel) (by decide +kernel)
set_option maxRecDepth 20000 in
theorem gX2_moveNumber_X5_fillWithNumber : GoodIn wsX2_moveNumber (wsV RX2 55 RX5 yX5_fillWithNumber wsX5_fillWithNumber) := goodIn_app (goodIn_of _ (by decide +kernel)) ggX2_moveNumber_X5_fillWithNumber
set_option maxRecDepth 20000 in
theorem ggX2_movePointer_X5_valueOf : GoodIn wsX2_movePointer wsX5_valueOf := goodIn_r _ [6, 7, 35, 36, 37, 38, 39, 40, 41, 42, 43, 44] (by decide +kernel) (by decide +kernel)
set_option maxRecDepth 20000 in
theorem gX2_movePointer_X5_valueOf : GoodIn wsX2_movePointer (wsV RX2 45 RX5 yX5_valueOf wsX5_valueOf) := goodIn_app (goodIn_of _ (by decide +kernel)) ggX2_movePointer_X5_valueOf
set_option maxRecDepth 20000 in
theorem ggX2_movePointer_X5_isLive : GoodIn wsX2_movePointer wsX5_isLive := goodIn_r _ [11, 12, 35, 36, 37, 38, 39, 40, 41, 42, 43, 44] (by decide +kernel) (by decide +kernel)
set_option maxRecDepth 20000 in
theorem gX2_movePointer_X5_isLive : GoodIn wsX2_movePointer (wsV RX2 84 RX5 yX5_isLive wsX5_isLive) := goodIn_app (goodIn_of _ (by decide +kernel)) ggX2_movePointer_X5_isLive
set_option maxRecDepth 20000 in
theorem ggX2_movePointer_X5_offsetOf : GoodIn wsX2_movePointer wsX5_offsetOf := goodIn_r _ [16, 17, 35, 36, 37, 38, 39, 40, 41, 42, 43, 44] (by decide +kernel) (by decide +kernel)
set_option maxRecDepth 20000 in
theorem gX2_movePointer_X5_offsetOf : GoodIn wsX2_movePointer (wsV RX2 62 RX5 yX5_offsetOf wsX5_offsetOf) := goodIn_app (goodIn_of _ (by decide +kernel)) ggX2_movePointer_X5_offsetOf
set_option maxRecDepth 20000 in
theorem ggX2_movePointer_X5_sizeOf : GoodIn wsX2_movePointer wsX5_sizeOf := goodIn_r _ [21, 22, 35, 36, 37, 38, 39, 40, 41, 42, 43, 44] (by decide +kernel) (by decide +kernel)
set_option maxRecDepth 20000 in
theorem gX2_movePointer_X5_sizeOf : GoodIn wsX2_movePointer (wsV RX2 87 RX5 yX5_sizeOf wsX5_sizeOf) := goodIn_app (goodIn_of _ (by decide +kernel)) ggX2_movePointer_X5_sizeOf
set_option maxRecDepth 20000 in
theorem ggX2_movePointer_X5_fillWithPointer : GoodIn wsX2_movePointer wsX5_fillWithPointer := goodIn_r _ [26, 27, 28, 29, 5, 30, 31, 7, 17, 35, 36, 37, 38, 39, 40, 41, 42, 43, 44] (by decide +kernel) (by decide +kernel)
set_option maxRecDepth 20000 in
theorem gX2_movePointer_X5_fillWithPointer : GoodIn wsX2_movePointer (wsV RX2 37 RX5 yX5_fillWithPointer wsX5_fillWithPointer) := goodIn_app (goodIn_of _ (by decide +kernel)) ggX2_movePointer_X5_fillWithPointer
set_option maxRecDepth 20000 in
theorem ggX2_storeBytes_X7_isRegister : GoodIn wsX2_storeBytes wsX7_isRegister := goodIn_r _ [4] (by decide +kernel) (by decide +kernel)
set_option maxRecDepth 20000 in
theorem gX2_storeBytes_X7_isRegister_n23 : GoodIn wsX2_storeBytes (wsX7_isRegister) := ggX2_storeBytes_X7_isRegister
set_option maxRecDepth 20000 in
theorem ggX2_storeBytes_X2_faultForWriting : GoodIn wsX2_storeBytes wsX2_faultForWriting := goodIn_r _ [9, 1, 10, 11, 12, 8, 13, 14, 15, 16, 17, 18, 19, 20, 21, 22, 23, 24, 25, 26, 27, 28, 29, 30, 31, 32, 33, 34, 35, 36, 37, 38, 39, 40, 41, 42, 43, 44, 45, 46, 47, 48, 70, 71, 72, 73, 74, 75, 76, 77, 78, 79, 80, 81, 82] (by decide +kernel) (by decide +kernel)
set_option maxRecDepth 20000 in
theorem gX2_storeBytes_X2_faultForWriting : GoodIn wsX2_storeBytes (wsV RX2 90 RX2 yX2_faultForWriting wsX2_faultForWriting) := goodIn_app (goodIn_of _ (by decide +kernel)) ggX2_storeBytes_X2_faultForWriting
set_option maxRecDepth 20000 in
theorem ggX2_storeBytes_X5_kindOf : GoodIn wsX2_storeBytes wsX5_kindOf := goodIn_r _ [18, 19, 73, 74, 75, 76, 77, 78, 79, 80, 81, 82] (by decide +kernel) (by decide +kernel)
set_option maxRecDepth 20000 in
theorem gX2_storeBytes_X5_kindOf : GoodIn wsX2_storeBytes (wsV RX2 59 RX5 yX5_kindOf wsX5_kindOf) := goodIn_app (goodIn_of _ (by decide +kernel)) ggX2_storeBytes_X5_kindOf
set_option maxRecDepth 20000 in
theorem ggX2_storeBytes_X5_valueOf : GoodIn wsX2_storeBytes wsX5_valueOf := goodIn_r _ [23, 24, 73, 74, 75, 76, 77, 78, 79, 80, 81, 82] (by decide +kernel) (by decide +kernel)
set_option maxRecDepth 20000 in
theorem gX2_storeBytes_X5_valueOf : GoodIn wsX2_storeBytes (wsV RX2 45 RX5 yX5_valueOf wsX5_valueOf) := goodIn_app (goodIn_of _ (by decide +kernel)) ggX2_storeBytes_X5_valueOf
set_option maxRecDepth 20000 in
theorem ggX2_storeBytes_X5_offsetOf : GoodIn wsX2_storeBytes wsX5_offsetOf := goodIn_r _ [42, 43, 73, 74, 75, 76, 77, 78, 79, 80, 81, 82] (by decide +kernel) (by decide +kernel)
set_option maxRecDepth 20000 in
theorem gX2_storeBytes_X5_offsetOf : GoodIn wsX2_storeBytes (wsV RX2 62 RX5 yX5_offsetOf wsX5_offsetOf) := goodIn_app (goodIn_of _ (by decide +kernel)) ggX2_storeBytes_X5_offsetOf
set_option maxRecDepth 20000 in
theorem ggX2_storeBytes_X2_splitPointers : GoodIn wsX2_storeBytes wsX2_splitPointers := goodIn_r _ [52, 1, 53, 54, 55, 17, 56, 57, 58, 59, 60, 61, 62, 3, 63, 70, 71, 72, 73, 74, 75, 76, 77, 78, 79, 80, 81, 82] (by decide +kernel) (by decide +kernel)
set_option maxRecDepth 20000 in
theorem gX2_storeBytes_X2_splitPointers : GoodIn wsX2_storeBytes (wsV RX2 93 RX2 yX2_splitPointers wsX2_splitPointers) := goodIn_app (goodIn_of _ (by decide +kernel)) ggX2_storeBytes_X2_splitPointers
set_option maxRecDepth 20000 in
theorem ggX2_storeBytes_X2_putValue : GoodIn wsX2_storeBytes wsX2_putValue := goodIn_r _ [67, 1, 20, 21, 22, 17, 23, 24, 14, 15, 16, 18, 19, 39, 40, 41, 42, 43, 68, 3, 69, 58, 59, 60, 61, 57, 70, 71, 72, 73, 74, 75, 76, 77, 78, 79, 80, 81, 82] (by decide +kernel) (by decide +kernel)
set_option maxRecDepth 20000 in
theorem gX2_storeBytes_X2_putValue : GoodIn wsX2_storeBytes (wsV RX2 96 RX2 yX2_putValue wsX2_putValue) := goodIn_app (goodIn_of _ (by decide +kernel)) ggX2_storeBytes_X2_putValue
set_option maxRecDepth 20000 in
theorem ggX2_putValue_X5_valueOf : GoodIn wsX2_putValue wsX5_valueOf := goodIn_r _ [6, 7, 29, 30, 31, 32, 33, 34, 35, 36, 37, 38] (by decide +kernel) (by decide +kernel)
set_option maxRecDepth 20000 in
theorem gX2_putValue_X5_valueOf : GoodIn wsX2_putValue (wsV RX2 45 RX5 yX5_valueOf wsX5_valueOf) := goodIn_app (goodIn_of _ (by decide +kernel)) ggX2_putValue_X5_valueOf
set_option maxRecDepth 20000 in
theorem ggX2_putValue_X5_kindOf : GoodIn wsX2_putValue wsX5_kindOf := goodIn_r _ [11, 12, 29, 30, 31, 32, 33, 34, 35, 36, 37, 38] (by decide +kernel) (by decide +kernel)
set_option maxRecDepth 20000 in
theorem gX2_putValue_X5_kindOf : GoodIn wsX2_putValue (wsV RX2 59 RX5 yX5_kindOf wsX5_kindOf) := goodIn_app (goodIn_of _ (by decide +kernel)) ggX2_putValue_X5_kindOf
set_option maxRecDepth 20000 in
theorem ggX2_putValue_X5_offsetOf : GoodIn wsX2_putValue wsX5_offsetOf := goodIn_r _ [16, 17, 29, 30, 31, 32, 33, 34, 35, 36, 37, 38] (by decide +kernel) (by decide +kernel)
set_option maxRecDepth 20000 in
theorem gX2_putValue_X5_offsetOf : GoodIn wsX2_putValue (wsV RX2 62 RX5 yX5_offsetOf wsX5_offsetOf) := goodIn_app (goodIn_of _ (by decide +kernel)) ggX2_putValue_X5_offsetOf
set_option maxRecDepth 20000 in
theorem ggX2_putValue_X7_pointerCode : GoodIn wsX2_putValue wsX7_pointerCode := goodIn_r _ [20] (by decide +kernel) (by decide +kernel)
set_option maxRecDepth 20000 in
theorem gX2_putValue_X7_pointerCode_n99 : GoodIn wsX2_putValue (wsX7_pointerCode) := ggX2_putValue_X7_pointerCode
set_option maxRecDepth 20000 in
theorem ggX2_putValue_X5_putCell : GoodIn wsX2_putValue wsX5_putCell := goodIn_r _ [24, 25, 29, 30, 31, 32, 33, 34, 35, 36, 37, 38] (by decide +kernel) (by decide +kernel)
set_option maxRecDepth 20000 in
theorem gX2_putValue_X5_putCell : GoodIn wsX2_putValue (wsV RX2 102 RX5 yX5_putCell wsX5_putCell) := goodIn_app (goodIn_of _ (by decide +kernel)) ggX2_putValue_X5_putCell
set_option maxRecDepth 20000 in
theorem ggX2_loadBytes_X7_isRegister : GoodIn wsX2_loadBytes wsX7_isRegister := goodIn_r _ [4] (by decide +kernel) (by decide +kernel)
set_option maxRecDepth 20000 in
theorem gX2_loadBytes_X7_isRegister_n23 : GoodIn wsX2_loadBytes (wsX7_isRegister) := ggX2_loadBytes_X7_isRegister
set_option maxRecDepth 20000 in
theorem ggX2_loadBytes_X2_faultForReading : GoodIn wsX2_loadBytes wsX2_faultForReading := goodIn_r _ [9, 10, 11, 12, 8, 13, 1, 14, 15, 16, 17, 18, 19, 20, 21, 22, 23, 24, 25, 26, 27, 28, 29, 30, 31, 32, 33, 34, 35, 36, 37, 38, 39, 40, 41, 42, 43, 67, 68, 69, 70, 71, 72, 73, 74, 75, 76, 77, 78, 79] (by decide +kernel) (by decide +kernel)
set_option maxRecDepth 20000 in
theorem gX2_loadBytes_X2_faultForReading : GoodIn wsX2_loadBytes (wsV RX2 105 RX2 yX2_faultForReading wsX2_faultForReading) := goodIn_app (goodIn_of _ (by decide +kernel)) ggX2_loadBytes_X2_faultForReading
set_option maxRecDepth 20000 in
theorem ggX2_loadBytes_X5_valueOf : GoodIn wsX2_loadBytes wsX5_valueOf := goodIn_r _ [23, 24, 70, 71, 72, 73, 74, 75, 76, 77, 78, 79] (by decide +kernel) (by decide +kernel)
set_option maxRecDepth 20000 in
theorem gX2_loadBytes_X5_valueOf : GoodIn wsX2_loadBytes (wsV RX2 45 RX5 yX5_valueOf wsX5_valueOf) := goodIn_app (goodIn_of _ (by decide +kernel)) ggX2_loadBytes_X5_valueOf
set_option maxRecDepth 20000 in
theorem ggX2_loadBytes_X5_offsetOf : GoodIn wsX2_loadBytes wsX5_offsetOf := goodIn_r _ [37, 38, 70, 71, 72, 73, 74, 75, 76, 77, 78, 79] (by decide +kernel) (by decide +kernel)
set_option maxRecDepth 20000 in
theorem gX2_loadBytes_X5_offsetOf : GoodIn wsX2_loadBytes (wsV RX2 62 RX5 yX5_offsetOf wsX5_offsetOf) := goodIn_app (goodIn_of _ (by decide +kernel)) ggX2_loadBytes_X5_offsetOf
set_option maxRecDepth 20000 in
theorem ggX2_loadBytes_X5_cellAt : GoodIn wsX2_loadBytes wsX5_cellAt := goodIn_r _ [47, 48, 70, 71, 72, 73, 74, 75, 76, 77, 78, 79] (by decide +kernel) (by decide +kernel)
set_option maxRecDepth 20000 in
theorem gX2_loadBytes_X5_cellAt : GoodIn wsX2_loadBytes (wsV RX2 108 RX5 yX5_cellAt wsX5_cellAt) := goodIn_app (goodIn_of _ (by decide +kernel)) ggX2_loadBytes_X5_cellAt
set_option maxRecDepth 20000 in
theorem ggX2_loadBytes_X7_isPointerCode : GoodIn wsX2_loadBytes wsX7_isPointerCode := goodIn_r _ [50] (by decide +kernel) (by decide +kernel)
set_option maxRecDepth 20000 in
theorem gX2_loadBytes_X7_isPointerCode_n111 : GoodIn wsX2_loadBytes (wsX7_isPointerCode) := ggX2_loadBytes_X7_isPointerCode
set_option maxRecDepth 20000 in
theorem ggX2_loadBytes_X7_blockOfCode : GoodIn wsX2_loadBytes wsX7_blockOfCode := goodIn_r _ [52] (by decide +kernel) (by decide +kernel)
set_option maxRecDepth 20000 in
theorem gX2_loadBytes_X7_blockOfCode_n114 : GoodIn wsX2_loadBytes (wsX7_blockOfCode) := ggX2_loadBytes_X7_blockOfCode
set_option maxRecDepth 20000 in
theorem ggX2_loadBytes_X7_offsetOfCode : GoodIn wsX2_loadBytes wsX7_offsetOfCode := goodIn_r _ [54] (by decide +kernel) (by decide +kernel)
set_option maxRecDepth 20000 in
theorem gX2_loadBytes_X7_offsetOfCode_n117 : GoodIn wsX2_loadBytes (wsX7_offsetOfCode) := ggX2_loadBytes_X7_offsetOfCode
set_option maxRecDepth 20000 in
theorem ggX2_loadBytes_X5_fillWithPointer : GoodIn wsX2_loadBytes wsX5_fillWithPointer := goodIn_r _ [58, 59, 60, 61, 17, 62, 19, 24, 38, 70, 71, 72, 73, 74, 75, 76, 77, 78, 79] (by decide +kernel) (by decide +kernel)
set_option maxRecDepth 20000 in
theorem gX2_loadBytes_X5_fillWithPointer : GoodIn wsX2_loadBytes (wsV RX2 37 RX5 yX5_fillWithPointer wsX5_fillWithPointer) := goodIn_app (goodIn_of _ (by decide +kernel)) ggX2_loadBytes_X5_fillWithPointer
set_option maxRecDepth 20000 in
theorem ggX2_loadBytes_X5_fillWithNumber : GoodIn wsX2_loadBytes wsX5_fillWithNumber := goodIn_r _ [66, 59, 60, 61, 17, 62, 19, 24, 38, 70, 71, 72, 73, 74, 75, 76, 77, 78, 79] (by decide +kernel) (by decide +kernel)
set_option maxRecDepth 20000 in
theorem gX2_loadBytes_X5_fillWithNumber : GoodIn wsX2_loadBytes (wsV RX2 55 RX5 yX5_fillWithNumber wsX5_fillWithNumber) := goodIn_app (goodIn_of _ (by decide +kernel)) ggX2_loadBytes_X5_fillWithNumber
set_option maxRecDepth 20000 in
theorem ggX2_compareRegisters_X7_isRegister : GoodIn wsX2_compareRegisters wsX7_isRegister := goodIn_r _ [4] (by decide +kernel) (by decide +kernel)
set_option maxRecDepth 20000 in
theorem gX2_compareRegisters_X7_isRegister_n23 : GoodIn wsX2_compareRegisters (wsX7_isRegister) := ggX2_compareRegisters_X7_isRegister
set_option maxRecDepth 20000 in
theorem ggX2_compareRegisters_X5_kindOf : GoodIn wsX2_compareRegisters wsX5_kindOf := goodIn_r _ [9, 10, 28, 29, 30, 31, 32, 33, 34, 35, 36, 37] (by decide +kernel) (by decide +kernel)
set_option maxRecDepth 20000 in
theorem gX2_compareRegisters_X5_kindOf : GoodIn wsX2_compareRegisters (wsV RX2 59 RX5 yX5_kindOf wsX5_kindOf) := goodIn_app (goodIn_of _ (by decide +kernel)) ggX2_compareRegisters_X5_kindOf
set_option maxRecDepth 20000 in
theorem ggX2_compareRegisters_X5_valueOf : GoodIn wsX2_compareRegisters wsX5_valueOf := goodIn_r _ [14, 15, 28, 29, 30, 31, 32, 33, 34, 35, 36, 37] (by decide +kernel) (by decide +kernel)
set_option maxRecDepth 20000 in
theorem gX2_compareRegisters_X5_valueOf : GoodIn wsX2_compareRegisters (wsV RX2 45 RX5 yX5_valueOf wsX5_valueOf) := goodIn_app (goodIn_of _ (by decide +kernel)) ggX2_compareRegisters_X5_valueOf
