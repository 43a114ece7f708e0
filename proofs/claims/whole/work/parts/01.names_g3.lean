set_option maxRecDepth 20000 in
theorem gX7_count_X7_counted : GoodIn wsX7_count (wsV RX7 154 RX7 yX7_counted wsX7_counted) := goodIn_app (goodIn_of _ (by decide +kernel)) ggX7_count_X7_counted
set_option maxRecDepth 20000 in
theorem ggX7_count_X6_noted : GoodIn wsX7_count wsX6_noted := goodIn_r _ [38, 39, 40, 41, 34, 58, 59, 60, 61] (by decide +kernel) (by decide +kernel)
set_option maxRecDepth 20000 in
theorem gX7_count_X6_noted : GoodIn wsX7_count (wsV RX7 87 RX6 yX6_noted wsX6_noted) := goodIn_app (goodIn_of _ (by decide +kernel)) ggX7_count_X6_noted
set_option maxRecDepth 20000 in
theorem ggX7_undefined_X6_ofReason : GoodIn wsX7_undefined wsX6_ofReason := goodIn_r _ [6, 7, 21, 22, 23, 24] (by decide +kernel) (by decide +kernel)
set_option maxRecDepth 20000 in
theorem gX7_undefined_X6_ofReason : GoodIn wsX7_undefined (wsV RX7 157 RX6 yX6_ofReason wsX6_ofReason) := goodIn_app (goodIn_of _ (by decide +kernel)) ggX7_undefined_X6_ofReason
set_option maxRecDepth 20000 in
theorem ggX7_undefined_X6_noted : GoodIn wsX7_undefined wsX6_noted := goodIn_r _ [11, 12, 13, 14, 7, 21, 22, 23, 24] (by decide +kernel) (by decide +kernel)
set_option maxRecDepth 20000 in
theorem gX7_undefined_X6_noted : GoodIn wsX7_undefined (wsV RX7 87 RX6 yX6_noted wsX6_noted) := goodIn_app (goodIn_of _ (by decide +kernel)) ggX7_undefined_X6_noted
set_option maxRecDepth 20000 in
theorem ggX7_type_X4_append : GoodIn wsX7_type wsX4_append := goodIn_r _ [7, 8, 9, 25, 26, 27, 28, 29, 30, 31, 32, 33, 34] (by decide +kernel) (by decide +kernel)
set_option maxRecDepth 20000 in
theorem gX7_type_X4_append : GoodIn wsX7_type (wsV RX7 160 RX4 yX4_append wsX4_append) := goodIn_app (goodIn_of _ (by decide +kernel)) ggX7_type_X4_append
set_option maxRecDepth 20000 in
theorem ggX7_type_X6_noted : GoodIn wsX7_type wsX6_noted := goodIn_r _ [14, 15, 16, 17, 18, 35, 36, 37, 38] (by decide +kernel) (by decide +kernel)
set_option maxRecDepth 20000 in
theorem gX7_type_X6_noted : GoodIn wsX7_type (wsV RX7 87 RX6 yX6_noted wsX6_noted) := goodIn_app (goodIn_of _ (by decide +kernel)) ggX7_type_X6_noted
set_option maxRecDepth 20000 in
theorem ggX7_clear_X4_empty : GoodIn wsX7_clear wsX4_empty := goodIn_r _ [6, 7, 14, 15, 16, 17, 18, 19, 20, 21, 22, 23] (by decide +kernel) (by decide +kernel)
set_option maxRecDepth 20000 in
theorem gX7_clear_X4_empty : GoodIn wsX7_clear (wsV RX7 163 RX4 yX4_empty wsX4_empty) := goodIn_app (goodIn_of _ (by decide +kernel)) ggX7_clear_X4_empty
set_option maxRecDepth 20000 in
theorem ggX7_does_X4_parse : GoodIn wsX7_does wsX4_parse := goodIn_r _ [10, 11, 12, 13, 14, 15, 16, 17, 9, 18, 19, 20, 21, 22, 23, 24, 25, 26, 27, 28, 29, 30, 31, 32, 33, 34, 35, 36, 37, 38, 39, 40, 41, 42, 43, 44, 45, 46, 47, 48, 49, 50, 51, 363, 364, 365, 366, 367, 368, 369, 370, 371, 372] (by decide +kernel) (by decide +kernel)
set_option maxRecDepth 20000 in
theorem gX7_does_X4_parse : GoodIn wsX7_does (wsV RX7 167 RX4 yX4_parse wsX4_parse) := goodIn_app (goodIn_of _ (by decide +kernel)) ggX7_does_X4_parse
set_option maxRecDepth 20000 in
theorem ggX7_does_X3_stage : GoodIn wsX7_does wsX3_stage := goodIn_r _ [56, 57, 58, 59, 55, 60, 61, 62, 63, 64, 65, 66, 67, 68, 69, 70, 71, 72, 73, 74, 75, 76, 77, 78, 79, 80, 81, 82, 83, 84, 85, 373, 374, 375, 353, 354, 355, 356, 357, 358, 359, 360, 361, 362] (by decide +kernel) (by decide +kernel)
set_option maxRecDepth 20000 in
theorem gX7_does_X3_stage : GoodIn wsX7_does (wsV RX7 53 RX3 yX3_stage wsX3_stage) := goodIn_app (goodIn_of _ (by decide +kernel)) ggX7_does_X3_stage
set_option maxRecDepth 20000 in
theorem ggX7_does_X4_run : GoodIn wsX7_does wsX4_run := goodIn_r _ [89, 11, 90, 91, 92, 9, 93, 40, 41, 42, 43, 39, 94, 95, 96, 97, 25, 98, 99, 100, 101, 102, 103, 104, 105, 106, 107, 108, 109, 110, 70, 111, 83, 79, 80, 81, 112, 113, 114, 115, 82, 116, 117, 118, 119, 120, 121, 122, 123, 72, 77, 78, 124, 125, 126, 127, 128, 129, 130, 131, 132, 133, 134, 135, 136, 137, 138, 139, 140, 141, 142, 143, 144, 145, 146, 147, 148, 149, 150, 151, 152, 153, 154, 155, 156, 157, 158, 159, 160, 161, 162, 163, 164, 165, 166, 167, 168, 169, 170, 171, 172, 173, 174, 175, 176, 177, 178, 179, 180, 181, 182, 64, 65, 66, 183, 184, 185, 186, 187, 188, 189, 190, 191, 192, 193, 194, 195, 196, 197, 198, 199, 200, 201, 202, 203, 204, 205, 206, 207, 208, 209, 210, 211, 212, 213, 214, 215, 216, 217, 218, 219, 220, 221, 222, 223, 224, 225, 226, 227, 228, 229, 230, 231, 232, 233, 234, 235, 236, 237, 238, 239, 240, 241, 242, 243, 244, 245, 246, 247, 248, 249, 250, 251, 252, 253, 254, 255, 256, 257, 258, 259, 260, 261, 262, 263, 264, 265, 266, 267, 268, 269, 270, 271, 272, 273, 274, 275, 276, 277, 278, 279, 280, 281, 282, 283, 284, 285, 286, 287, 288, 289, 290, 291, 292, 293, 294, 295, 296, 297, 298, 299, 300, 301, 302, 303, 304, 305, 306, 307, 308, 309, 310, 311, 312, 313, 314, 315, 316, 317, 318, 319, 320, 321, 322, 323, 324, 325, 326, 327, 328, 329, 330, 331, 332, 333, 334, 335, 336, 337, 363, 364, 365, 366, 367, 368, 369, 370, 371, 372, 376, 377, 378, 353, 354, 355, 356, 357, 358, 359, 360, 361, 362, 379, 380, 381, 382, 383, 384, 385] (by decide +kernel) (by decide +kernel)
set_option maxRecDepth 20000 in
theorem gX7_does_X4_run : GoodIn wsX7_does (wsV RX7 173 RX4 yX4_run wsX4_run) := goodIn_app (goodIn_of _ (by decide +kernel)) ggX7_does_X4_run
set_option maxRecDepth 20000 in
theorem ggX7_does_X3_keep : GoodIn wsX7_does wsX3_keep := goodIn_r _ [341, 62, 342, 373, 374, 375] (by decide +kernel) (by decide +kernel)
set_option maxRecDepth 20000 in
theorem gX7_does_X3_keep : GoodIn wsX7_does (wsV RX7 177 RX3 yX3_keep wsX3_keep) := goodIn_app (goodIn_of _ (by decide +kernel)) ggX7_does_X3_keep
set_option maxRecDepth 20000 in
theorem ggX7_does_X3_undo : GoodIn wsX7_does wsX3_undo := goodIn_r _ [346, 57, 58, 59, 55, 60, 61, 62, 63, 64, 65, 66, 67, 68, 69, 70, 71, 72, 73, 74, 75, 76, 77, 78, 79, 80, 81, 82, 83, 84, 85, 373, 374, 375, 353, 354, 355, 356, 357, 358, 359, 360, 361, 362] (by decide +kernel) (by decide +kernel)
set_option maxRecDepth 20000 in
theorem gX7_does_X3_undo : GoodIn wsX7_does (wsV RX7 180 RX3 yX3_undo wsX3_undo) := goodIn_app (goodIn_of _ (by decide +kernel)) ggX7_does_X3_undo
set_option maxRecDepth 20000 in
theorem ggX7_back_X3_bringBack : GoodIn wsX7_back wsX3_bringBack := goodIn_r _ [8, 9, 10, 11, 12, 13, 7, 14, 15, 16, 17, 18, 19, 20, 21, 22, 23, 24, 25, 26, 27, 28, 29, 30, 31, 32, 33, 34, 35, 36, 37, 38, 54, 55, 56, 57, 58, 59, 60, 61, 62, 63, 64, 65, 66] (by decide +kernel) (by decide +kernel)
set_option maxRecDepth 20000 in
theorem gX7_back_X3_bringBack : GoodIn wsX7_back (wsV RX7 183 RX3 yX3_bringBack wsX3_bringBack) := goodIn_app (goodIn_of _ (by decide +kernel)) ggX7_back_X3_bringBack
set_option maxRecDepth 20000 in
theorem ggX7_back_X6_noted : GoodIn wsX7_back wsX6_noted := goodIn_r _ [43, 44, 45, 46, 47, 67, 68, 69, 70] (by decide +kernel) (by decide +kernel)
set_option maxRecDepth 20000 in
theorem gX7_back_X6_noted : GoodIn wsX7_back (wsV RX7 87 RX6 yX6_noted wsX6_noted) := goodIn_app (goodIn_of _ (by decide +kernel)) ggX7_back_X6_noted
set_option maxRecDepth 20000 in
theorem ggX7_digest_X7_counted : GoodIn wsX7_digest wsX7_counted := goodIn_r _ [10, 3, 4, 5, 11, 2, 12, 13, 14, 15, 16, 17, 18, 19, 20, 21, 22, 23, 24, 25, 26, 27, 28, 29, 30, 31, 32, 33, 34, 35, 118, 119, 120, 121, 122, 123, 124, 125, 126, 127, 128, 129, 130, 131, 132, 133, 134, 135, 136, 137, 138, 139, 140, 141, 142, 143, 144, 145, 146, 147, 148, 149, 150] (by decide +kernel) (by decide +kernel)
set_option maxRecDepth 20000 in
theorem gX7_digest_X7_counted : GoodIn wsX7_digest (wsV RX7 154 RX7 yX7_counted wsX7_counted) := goodIn_app (goodIn_of _ (by decide +kernel)) ggX7_digest_X7_counted
set_option maxRecDepth 20000 in
theorem ggX7_digest_X7_mixed : GoodIn wsX7_digest wsX7_mixed := goodIn_r _ [38, 39] (by decide +kernel) (by decide +kernel)
set_option maxRecDepth 20000 in
theorem gX7_digest_X7_mixed : GoodIn wsX7_digest (va_wsS RX7 188 yX7_mixed wsX7_mixed) := goodIn_app (goodIn_of _ (by decide +kernel)) ggX7_digest_X7_mixed
set_option maxRecDepth 20000 in
theorem ggX7_digest_X6_ofReason : GoodIn wsX7_digest wsX6_ofReason := goodIn_r _ [43, 35, 134, 135, 136, 137] (by decide +kernel) (by decide +kernel)
set_option maxRecDepth 20000 in
theorem gX7_digest_X6_ofReason : GoodIn wsX7_digest (wsV RX7 157 RX6 yX6_ofReason wsX6_ofReason) := goodIn_app (goodIn_of _ (by decide +kernel)) ggX7_digest_X6_ofReason
set_option maxRecDepth 20000 in
theorem ggX7_digest_X5_registerProperty : GoodIn wsX7_digest wsX5_registerProperty := goodIn_r _ [47, 48, 49, 50, 51, 9, 52, 124, 125, 126, 127, 128, 129, 130, 131, 132, 133] (by decide +kernel) (by decide +kernel)
set_option maxRecDepth 20000 in
theorem gX7_digest_X5_registerProperty : GoodIn wsX7_digest (wsV RX7 102 RX5 yX5_registerProperty wsX5_registerProperty) := goodIn_app (goodIn_of _ (by decide +kernel)) ggX7_digest_X5_registerProperty
set_option maxRecDepth 20000 in
theorem ggX7_digest_X7_digestOfBlock : GoodIn wsX7_digest wsX7_digestOfBlock := goodIn_r _ [56, 3, 57, 58, 59, 22, 60, 61, 29, 62, 63, 64, 65, 66, 24, 67, 68, 69, 70, 71, 72, 73, 74, 75, 76, 77, 78, 79, 80, 81, 82, 83, 84, 9, 85, 36, 37, 38, 39, 86, 87, 118, 119, 120, 121, 122, 123, 124, 125, 126, 127, 128, 129, 130, 131, 132, 133] (by decide +kernel) (by decide +kernel)
set_option maxRecDepth 20000 in
theorem gX7_digest_X7_digestOfBlock : GoodIn wsX7_digest (wsV RX7 195 RX7 yX7_digestOfBlock wsX7_digestOfBlock) := goodIn_app (goodIn_of _ (by decide +kernel)) ggX7_digest_X7_digestOfBlock
set_option maxRecDepth 20000 in
theorem ggX7_digest_X7_digestOfImage : GoodIn wsX7_digest wsX7_digestOfImage := goodIn_r _ [91, 92, 93, 94, 95, 96, 97, 98, 99, 100, 101, 102, 103, 104, 105, 106, 107, 108, 109, 110, 111, 112, 113, 114, 115, 84, 9, 85, 36, 37, 38, 39, 116, 117, 118, 119, 120, 121, 122, 123, 151, 152, 153, 154, 155, 156, 157] (by decide +kernel) (by decide +kernel)
set_option maxRecDepth 20000 in
theorem gX7_digest_X7_digestOfImage : GoodIn wsX7_digest (wsV RX7 198 RX7 yX7_digestOfImage wsX7_digestOfImage) := goodIn_app (goodIn_of _ (by decide +kernel)) ggX7_digest_X7_digestOfImage
set_option maxRecDepth 20000 in
theorem ggX7_digestOfBlock_X5_blockProperty : GoodIn wsX7_digestOfBlock wsX5_blockProperty := goodIn_r _ [6, 7, 8, 9, 10, 11, 12, 5, 13, 14, 15, 16, 17, 18, 19, 20, 21, 22, 23, 24, 25, 26, 27, 28, 29, 30, 31, 32, 33, 34, 47, 48, 49, 50, 51, 52, 53, 54, 55, 56] (by decide +kernel) (by decide +kernel)
set_option maxRecDepth 20000 in
theorem gX7_digestOfBlock_X5_blockProperty : GoodIn wsX7_digestOfBlock (wsV RX7 113 RX5 yX5_blockProperty wsX5_blockProperty) := goodIn_app (goodIn_of _ (by decide +kernel)) ggX7_digestOfBlock_X5_blockProperty
set_option maxRecDepth 20000 in
theorem ggX7_digestOfBlock_X7_mixed : GoodIn wsX7_digestOfBlock wsX7_mixed := goodIn_r _ [37, 38] (by decide +kernel) (by decide +kernel)
set_option maxRecDepth 20000 in
theorem gX7_digestOfBlock_X7_mixed : GoodIn wsX7_digestOfBlock (va_wsS RX7 188 yX7_mixed wsX7_mixed) := goodIn_app (goodIn_of _ (by decide +kernel)) ggX7_digestOfBlock_X7_mixed
set_option maxRecDepth 20000 in
theorem ggX7_digestOfBlock_X5_sizeOf : GoodIn wsX7_digestOfBlock wsX5_sizeOf := goodIn_r _ [22, 7, 47, 48, 49, 50, 51, 52, 53, 54, 55, 56] (by decide +kernel) (by decide +kernel)
set_option maxRecDepth 20000 in
theorem gX7_digestOfBlock_X5_sizeOf : GoodIn wsX7_digestOfBlock (wsV RX7 116 RX5 yX5_sizeOf wsX5_sizeOf) := goodIn_app (goodIn_of _ (by decide +kernel)) ggX7_digestOfBlock_X5_sizeOf
set_option maxRecDepth 20000 in
theorem ggX7_digestOfBlock_X5_cellAt : GoodIn wsX7_digestOfBlock wsX5_cellAt := goodIn_r _ [26, 27, 47, 48, 49, 50, 51, 52, 53, 54, 55, 56] (by decide +kernel) (by decide +kernel)
set_option maxRecDepth 20000 in
theorem gX7_digestOfBlock_X5_cellAt : GoodIn wsX7_digestOfBlock (wsV RX7 119 RX5 yX5_cellAt wsX5_cellAt) := goodIn_app (goodIn_of _ (by decide +kernel)) ggX7_digestOfBlock_X5_cellAt
set_option maxRecDepth 20000 in
theorem ggX7_digestOfImage_X0_imageAt : GoodIn wsX7_digestOfImage wsX0_imageAt := goodIn_r _ [7, 8, 43, 44, 45, 46] (by decide +kernel) (by decide +kernel)
set_option maxRecDepth 20000 in
theorem gX7_digestOfImage_X0_imageAt : GoodIn wsX7_digestOfImage (wsV RX7 125 RX0 yX0_imageAt wsX0_imageAt) := goodIn_app (goodIn_of _ (by decide +kernel)) ggX7_digestOfImage_X0_imageAt
set_option maxRecDepth 20000 in
theorem ggX7_digestOfImage_X1_property : GoodIn wsX7_digestOfImage wsX1_property := goodIn_r _ [13, 14, 15, 16, 17, 12, 18, 19, 20, 21, 22, 23, 24, 25, 26, 27, 40, 41, 42] (by decide +kernel) (by decide +kernel)
set_option maxRecDepth 20000 in
theorem gX7_digestOfImage_X1_property : GoodIn wsX7_digestOfImage (wsV RX7 129 RX1 yX1_property wsX1_property) := goodIn_app (goodIn_of _ (by decide +kernel)) ggX7_digestOfImage_X1_property
set_option maxRecDepth 20000 in
theorem ggX7_digestOfImage_X7_mixed : GoodIn wsX7_digestOfImage wsX7_mixed := goodIn_r _ [30, 31] (by decide +kernel) (by decide +kernel)
set_option maxRecDepth 20000 in
theorem gX7_digestOfImage_X7_mixed : GoodIn wsX7_digestOfImage (va_wsS RX7 188 yX7_mixed wsX7_mixed) := goodIn_app (goodIn_of _ (by decide +kernel)) ggX7_digestOfImage_X7_mixed
set_option maxRecDepth 20000 in
theorem ggX7_digestOfImage_X1_sizeOf : GoodIn wsX7_digestOfImage wsX1_sizeOf := goodIn_r _ [18, 19, 40, 41, 42] (by decide +kernel) (by decide +kernel)
set_option maxRecDepth 20000 in
theorem gX7_digestOfImage_X1_sizeOf : GoodIn wsX7_digestOfImage (wsV RX7 137 RX1 yX1_sizeOf wsX1_sizeOf) := goodIn_app (goodIn_of _ (by decide +kernel)) ggX7_digestOfImage_X1_sizeOf
set_option maxRecDepth 20000 in
theorem ggX7_digestOfImage_X1_cellAt : GoodIn wsX7_digestOfImage wsX1_cellAt := goodIn_r _ [23, 24, 40, 41, 42] (by decide +kernel) (by decide +kernel)
set_option maxRecDepth 20000 in
theorem gX7_digestOfImage_X1_cellAt : GoodIn wsX7_digestOfImage (wsV RX7 138 RX1 yX1_cellAt wsX1_cellAt) := goodIn_app (goodIn_of _ (by decide +kernel)) ggX7_digestOfImage_X1_cellAt
set_option maxRecDepth 20000 in
theorem ggX7_counted_X5_liveBlocks : GoodIn wsX7_counted wsX5_liveBlocks := goodIn_r _ [17, 18, 19, 20, 21, 16, 22, 23, 36, 37, 38, 39, 40, 41, 42, 43, 44, 45] (by decide +kernel) (by decide +kernel)
set_option maxRecDepth 20000 in
theorem gX7_counted_X5_liveBlocks : GoodIn wsX7_counted (wsV RX7 206 RX5 yX5_liveBlocks wsX5_liveBlocks) := goodIn_app (goodIn_of _ (by decide +kernel)) ggX7_counted_X5_liveBlocks
set_option maxRecDepth 20000 in
theorem ggX7_counted_X6_ofAllReasons : GoodIn wsX7_counted wsX6_ofAllReasons := goodIn_r _ [28, 29, 46, 47, 48, 49] (by decide +kernel) (by decide +kernel)
set_option maxRecDepth 20000 in
theorem gX7_counted_X6_ofAllReasons : GoodIn wsX7_counted (wsV RX7 218 RX6 yX6_ofAllReasons wsX6_ofAllReasons) := goodIn_app (goodIn_of _ (by decide +kernel)) ggX7_counted_X6_ofAllReasons
set_option maxRecDepth 20000 in
theorem ggX7_settled_X3_keep : GoodIn wsX7_settled wsX3_keep := goodIn_r _ [7, 8, 9, 25, 26, 27] (by decide +kernel) (by decide +kernel)
set_option maxRecDepth 20000 in
theorem gX7_settled_X3_keep : GoodIn wsX7_settled (wsV RX7 177 RX3 yX3_keep wsX3_keep) := goodIn_app (goodIn_of _ (by decide +kernel)) ggX7_settled_X3_keep
set_option maxRecDepth 20000 in
theorem ggX7_settled_X6_noted : GoodIn wsX7_settled wsX6_noted := goodIn_r _ [14, 15, 16, 17, 18, 28, 29, 30, 31] (by decide +kernel) (by decide +kernel)
set_option maxRecDepth 20000 in
theorem gX7_settled_X6_noted : GoodIn wsX7_settled (wsV RX7 87 RX6 yX6_noted wsX6_noted) := goodIn_app (goodIn_of _ (by decide +kernel)) ggX7_settled_X6_noted
set_option maxRecDepth 20000 in
theorem ggX8_sizeOf_X8_piecePlace : GoodIn wsX8_sizeOf wsX8_piecePlace := goodIn_r _ [5] (by decide +kernel) (by decide +kernel)
set_option maxRecDepth 20000 in
theorem gX8_sizeOf_X8_piecePlace : GoodIn wsX8_sizeOf (va_wsS RX8 47 yX8_piecePlace wsX8_piecePlace) := goodIn_app (goodIn_of _ (by decide +kernel)) ggX8_sizeOf_X8_piecePlace
set_option maxRecDepth 20000 in
theorem ggX8_isLive_X8_piecePlace : GoodIn wsX8_isLive wsX8_piecePlace := goodIn_r _ [5] (by decide +kernel) (by decide +kernel)
set_option maxRecDepth 20000 in
theorem gX8_isLive_X8_piecePlace : GoodIn wsX8_isLive (va_wsS RX8 47 yX8_piecePlace wsX8_piecePlace) := goodIn_app (goodIn_of _ (by decide +kernel)) ggX8_isLive_X8_piecePlace
set_option maxRecDepth 20000 in
theorem ggX8_isFrozen_X8_piecePlace : GoodIn wsX8_isFrozen wsX8_piecePlace := goodIn_r _ [5] (by decide +kernel) (by decide +kernel)
set_option maxRecDepth 20000 in
theorem gX8_isFrozen_X8_piecePlace : GoodIn wsX8_isFrozen (va_wsS RX8 47 yX8_piecePlace wsX8_piecePlace) := goodIn_app (goodIn_of _ (by decide +kernel)) ggX8_isFrozen_X8_piecePlace
set_option maxRecDepth 20000 in
theorem ggX8_bytePlace_X8_piecePlace : GoodIn wsX8_bytePlace wsX8_piecePlace := goodIn_r _ [4] (by decide +kernel) (by decide +kernel)
set_option maxRecDepth 20000 in
theorem gX8_bytePlace_X8_piecePlace : GoodIn wsX8_bytePlace (va_wsS RX8 47 yX8_piecePlace wsX8_piecePlace) := goodIn_app (goodIn_of _ (by decide +kernel)) ggX8_bytePlace_X8_piecePlace
set_option maxRecDepth 20000 in
theorem ggX8_isRegister_X8_in : GoodIn wsX8_isRegister wsX8_in := goodIn_r _ [4] (by decide +kernel) (by decide +kernel)
set_option maxRecDepth 20000 in
theorem gX8_isRegister_X8_in : GoodIn wsX8_isRegister (va_wsS RX8 51 yX8_in wsX8_in) := goodIn_app (goodIn_of _ (by decide +kernel)) ggX8_isRegister_X8_in
set_option maxRecDepth 20000 in
theorem ggX8_notGood_X8_kindOf : GoodIn wsX8_notGood wsX8_kindOf := goodIn_r _ [5, 6, 18, 19, 20, 21, 22, 23, 24, 25, 26, 27, 28, 29, 30, 31, 32, 33, 34, 35, 36] (by decide +kernel) (by decide +kernel)
set_option maxRecDepth 20000 in
theorem gX8_notGood_X8_kindOf : GoodIn wsX8_notGood (wsV RX8 55 RX8 yX8_kindOf wsX8_kindOf) := goodIn_app (goodIn_of _ (by decide +kernel)) ggX8_notGood_X8_kindOf
set_option maxRecDepth 20000 in
theorem ggX8_notGood_X8_valueOf : GoodIn wsX8_notGood wsX8_valueOf := goodIn_r _ [10, 6, 18, 19, 20, 21, 22, 23, 24, 25, 26, 27, 28, 29, 30, 31, 32, 33, 34, 35, 36] (by decide +kernel) (by decide +kernel)
set_option maxRecDepth 20000 in
theorem gX8_notGood_X8_valueOf : GoodIn wsX8_notGood (wsV RX8 58 RX8 yX8_valueOf wsX8_valueOf) := goodIn_app (goodIn_of _ (by decide +kernel)) ggX8_notGood_X8_valueOf
set_option maxRecDepth 20000 in
theorem ggX8_notGood_X8_isLive : GoodIn wsX8_notGood wsX8_isLive := goodIn_r _ [14, 6, 15, 16, 4, 17, 18, 19, 20, 21, 22, 23, 24, 25, 26, 27, 28, 29, 30, 31, 32, 33, 34, 35, 36] (by decide +kernel) (by decide +kernel)
set_option maxRecDepth 20000 in
theorem gX8_notGood_X8_isLive : GoodIn wsX8_notGood (wsV RX8 61 RX8 yX8_isLive wsX8_isLive) := goodIn_app (goodIn_of _ (by decide +kernel)) ggX8_notGood_X8_isLive
set_option maxRecDepth 20000 in
theorem ggX8_isWithin_X8_placeOf : GoodIn wsX8_isWithin wsX8_placeOf := goodIn_r _ [5, 6, 18, 19, 20, 21, 22, 23, 24, 25, 26, 27, 28, 29, 30, 31, 32, 33, 34, 35, 36] (by decide +kernel) (by decide +kernel)
set_option maxRecDepth 20000 in
theorem gX8_isWithin_X8_placeOf : GoodIn wsX8_isWithin (wsV RX8 65 RX8 yX8_placeOf wsX8_placeOf) := goodIn_app (goodIn_of _ (by decide +kernel)) ggX8_isWithin_X8_placeOf
set_option maxRecDepth 20000 in
theorem ggX8_isWithin_X8_valueOf : GoodIn wsX8_isWithin wsX8_valueOf := goodIn_r _ [10, 6, 18, 19, 20, 21, 22, 23, 24, 25, 26, 27, 28, 29, 30, 31, 32, 33, 34, 35, 36] (by decide +kernel) (by decide +kernel)
set_option maxRecDepth 20000 in
theorem gX8_isWithin_X8_valueOf : GoodIn wsX8_isWithin (wsV RX8 58 RX8 yX8_valueOf wsX8_valueOf) := goodIn_app (goodIn_of _ (by decide +kernel)) ggX8_isWithin_X8_valueOf
set_option maxRecDepth 20000 in
theorem ggX8_isWithin_X8_sizeOf : GoodIn wsX8_isWithin wsX8_sizeOf := goodIn_r _ [14, 6, 15, 16, 4, 17, 18, 19, 20, 21, 22, 23, 24, 25, 26, 27, 28, 29, 30, 31, 32, 33, 34, 35, 36] (by decide +kernel) (by decide +kernel)
set_option maxRecDepth 20000 in
theorem gX8_isWithin_X8_sizeOf : GoodIn wsX8_isWithin (wsV RX8 68 RX8 yX8_sizeOf wsX8_sizeOf) := goodIn_app (goodIn_of _ (by decide +kernel)) ggX8_isWithin_X8_sizeOf
set_option maxRecDepth 20000 in
theorem ggX8_notGoodFor_X8_notGood : GoodIn wsX8_notGoodFor wsX8_notGood := goodIn_r _ [5, 6, 7, 8, 4, 9, 10, 11, 12, 13, 14, 15, 16, 17, 18, 19, 20, 21, 34, 35, 36, 37, 38, 39, 40, 41, 42, 43, 44, 45, 46, 47, 48, 49, 50, 51, 52] (by decide +kernel) (by decide +kernel)
set_option maxRecDepth 20000 in
theorem gX8_notGoodFor_X8_notGood : GoodIn wsX8_notGoodFor (wsV RX8 71 RX8 yX8_notGood wsX8_notGood) := goodIn_app (goodIn_of _ (by decide +kernel)) ggX8_notGoodFor_X8_notGood
set_option maxRecDepth 20000 in
theorem ggX8_notGoodFor_X8_isWithin : GoodIn wsX8_notGoodFor wsX8_isWithin := goodIn_r _ [25, 26, 27, 28, 4, 29, 10, 11, 12, 13, 14, 30, 31, 32, 33, 19, 20, 21, 34, 35, 36, 37, 38, 39, 40, 41, 42, 43, 44, 45, 46, 47, 48, 49, 50, 51, 52] (by decide +kernel) (by decide +kernel)
set_option maxRecDepth 20000 in
theorem gX8_notGoodFor_X8_isWithin : GoodIn wsX8_notGoodFor (wsV RX8 74 RX8 yX8_isWithin wsX8_isWithin) := goodIn_app (goodIn_of _ (by decide +kernel)) ggX8_notGoodFor_X8_isWithin
set_option maxRecDepth 20000 in
theorem ggX8_notToWrite_X8_notGood : GoodIn wsX8_notToWrite wsX8_notGood := goodIn_r _ [5, 6, 7, 8, 4, 9, 10, 11, 12, 13, 14, 15, 16, 17, 18, 19, 20, 21, 38, 39, 40, 41, 42, 43, 44, 45, 46, 47, 48, 49, 50, 51, 52, 53, 54, 55, 56] (by decide +kernel) (by decide +kernel)
set_option maxRecDepth 20000 in
theorem gX8_notToWrite_X8_notGood : GoodIn wsX8_notToWrite (wsV RX8 71 RX8 yX8_notGood wsX8_notGood) := goodIn_app (goodIn_of _ (by decide +kernel)) ggX8_notToWrite_X8_notGood
set_option maxRecDepth 20000 in
theorem ggX8_notToWrite_X8_valueOf : GoodIn wsX8_notToWrite wsX8_valueOf := goodIn_r _ [14, 10, 38, 39, 40, 41, 42, 43, 44, 45, 46, 47, 48, 49, 50, 51, 52, 53, 54, 55, 56] (by decide +kernel) (by decide +kernel)
set_option maxRecDepth 20000 in
theorem gX8_notToWrite_X8_valueOf : GoodIn wsX8_notToWrite (wsV RX8 58 RX8 yX8_valueOf wsX8_valueOf) := goodIn_app (goodIn_of _ (by decide +kernel)) ggX8_notToWrite_X8_valueOf
set_option maxRecDepth 20000 in
theorem ggX8_notToWrite_X8_isFrozen : GoodIn wsX8_notToWrite wsX8_isFrozen := goodIn_r _ [25, 10, 19, 20, 4, 21, 38, 39, 40, 41, 42, 43, 44, 45, 46, 47, 48, 49, 50, 51, 52, 53, 54, 55, 56] (by decide +kernel) (by decide +kernel)
set_option maxRecDepth 20000 in
theorem gX8_notToWrite_X8_isFrozen : GoodIn wsX8_notToWrite (wsV RX8 78 RX8 yX8_isFrozen wsX8_isFrozen) := goodIn_app (goodIn_of _ (by decide +kernel)) ggX8_notToWrite_X8_isFrozen
set_option maxRecDepth 20000 in
theorem ggX8_notToWrite_X8_isWithin : GoodIn wsX8_notToWrite wsX8_isWithin := goodIn_r _ [29, 30, 31, 32, 4, 33, 10, 11, 12, 13, 14, 34, 35, 36, 37, 19, 20, 21, 38, 39, 40, 41, 42, 43, 44, 45, 46, 47, 48, 49, 50, 51, 52, 53, 54, 55, 56] (by decide +kernel) (by decide +kernel)
set_option maxRecDepth 20000 in
theorem gX8_notToWrite_X8_isWithin : GoodIn wsX8_notToWrite (wsV RX8 74 RX8 yX8_isWithin wsX8_isWithin) := goodIn_app (goodIn_of _ (by decide +kernel)) ggX8_notToWrite_X8_isWithin
set_option maxRecDepth 20000 in
theorem ggX8_cuts_X8_bytePlace : GoodIn wsX8_cuts wsX8_bytePlace := goodIn_r _ [5, 6, 7, 4, 8] (by decide +kernel) (by decide +kernel)
set_option maxRecDepth 20000 in
theorem gX8_cuts_X8_bytePlace : GoodIn wsX8_cuts (va_wsS RX8 81 yX8_bytePlace wsX8_bytePlace) := goodIn_app (goodIn_of _ (by decide +kernel)) ggX8_cuts_X8_bytePlace
set_option maxRecDepth 20000 in
theorem ggX8_makes_X8_isRegister : GoodIn wsX8_makes wsX8_isRegister := goodIn_r _ [5, 6, 7, 4, 8] (by decide +kernel) (by decide +kernel)
set_option maxRecDepth 20000 in
theorem gX8_makes_X8_isRegister : GoodIn wsX8_makes (va_wsS RX8 85 yX8_isRegister wsX8_isRegister) := goodIn_app (goodIn_of _ (by decide +kernel)) ggX8_makes_X8_isRegister
set_option maxRecDepth 20000 in
theorem ggX8_makes_X8_in : GoodIn wsX8_makes wsX8_in := goodIn_r _ [8] (by decide +kernel) (by decide +kernel)
set_option maxRecDepth 20000 in
theorem gX8_makes_X8_in : GoodIn wsX8_makes (va_wsS RX8 51 yX8_in wsX8_in) := goodIn_app (goodIn_of _ (by decide +kernel)) ggX8_makes_X8_in
set_option maxRecDepth 20000 in
theorem ggX8_makes_X8_piecePlace : GoodIn wsX8_makes wsX8_piecePlace := goodIn_r _ [11] (by decide +kernel) (by decide +kernel)
set_option maxRecDepth 20000 in
theorem gX8_makes_X8_piecePlace : GoodIn wsX8_makes (va_wsS RX8 47 yX8_piecePlace wsX8_piecePlace) := goodIn_app (goodIn_of _ (by decide +kernel)) ggX8_makes_X8_piecePlace
set_option maxRecDepth 20000 in
theorem ggX8_makes_X8_tells : GoodIn wsX8_makes wsX8_tells := goodIn_r _ [15, 1, 16, 17, 18, 19, 20, 21, 22, 23, 24, 25, 26, 27, 28, 29, 30, 31, 32, 33, 34] (by decide +kernel) (by decide +kernel)
set_option maxRecDepth 20000 in
theorem gX8_makes_X8_tells : GoodIn wsX8_makes (wsV RX8 88 RX8 yX8_tells wsX8_tells) := goodIn_app (goodIn_of _ (by decide +kernel)) ggX8_makes_X8_tells
set_option maxRecDepth 20000 in
theorem ggX8_ends_X8_isRegister : GoodIn wsX8_ends wsX8_isRegister := goodIn_r _ [5, 6, 7, 4, 8] (by decide +kernel) (by decide +kernel)
set_option maxRecDepth 20000 in
theorem gX8_ends_X8_isRegister : GoodIn wsX8_ends (va_wsS RX8 85 yX8_isRegister wsX8_isRegister) := goodIn_app (goodIn_of _ (by decide +kernel)) ggX8_ends_X8_isRegister
set_option maxRecDepth 20000 in
theorem ggX8_ends_X8_notGood : GoodIn wsX8_ends wsX8_notGood := goodIn_r _ [12, 13, 14, 15, 4, 16, 1, 17, 18, 19, 20, 21, 22, 23, 24, 25, 26, 27, 39, 40, 41, 42, 43, 44, 45, 46, 47, 48, 49, 50, 51, 52, 53, 54, 55, 56, 57] (by decide +kernel) (by decide +kernel)
set_option maxRecDepth 20000 in
theorem gX8_ends_X8_notGood : GoodIn wsX8_ends (wsV RX8 71 RX8 yX8_notGood wsX8_notGood) := goodIn_app (goodIn_of _ (by decide +kernel)) ggX8_ends_X8_notGood
set_option maxRecDepth 20000 in
theorem ggX8_ends_X8_placeOf : GoodIn wsX8_ends wsX8_placeOf := goodIn_r _ [31, 1, 39, 40, 41, 42, 43, 44, 45, 46, 47, 48, 49, 50, 51, 52, 53, 54, 55, 56, 57] (by decide +kernel) (by decide +kernel)
set_option maxRecDepth 20000 in
theorem gX8_ends_X8_placeOf : GoodIn wsX8_ends (wsV RX8 65 RX8 yX8_placeOf wsX8_placeOf) := goodIn_app (goodIn_of _ (by decide +kernel)) ggX8_ends_X8_placeOf
set_option maxRecDepth 20000 in
theorem ggX8_ends_X8_valueOf : GoodIn wsX8_ends wsX8_valueOf := goodIn_r _ [20, 1, 39, 40, 41, 42, 43, 44, 45, 46, 47, 48, 49, 50, 51, 52, 53, 54, 55, 56, 57] (by decide +kernel) (by decide +kernel)
set_option maxRecDepth 20000 in
theorem gX8_ends_X8_valueOf : GoodIn wsX8_ends (wsV RX8 58 RX8 yX8_valueOf wsX8_valueOf) := goodIn_app (goodIn_of _ (by decide +kernel)) ggX8_ends_X8_valueOf
set_option maxRecDepth 20000 in
theorem ggX8_ends_X8_isFrozen : GoodIn wsX8_ends wsX8_isFrozen := goodIn_r _ [35, 1, 25, 26, 4, 27, 39, 40, 41, 42, 43, 44, 45, 46, 47, 48, 49, 50, 51, 52, 53, 54, 55, 56, 57] (by decide +kernel) (by decide +kernel)
set_option maxRecDepth 20000 in
theorem gX8_ends_X8_isFrozen : GoodIn wsX8_ends (wsV RX8 78 RX8 yX8_isFrozen wsX8_isFrozen) := goodIn_app (goodIn_of _ (by decide +kernel)) ggX8_ends_X8_isFrozen
set_option maxRecDepth 20000 in
theorem ggX8_ends_X8_undefinedAs : GoodIn wsX8_ends wsX8_undefinedAs := goodIn_r _ [38] (by decide +kernel) (by decide +kernel)
set_option maxRecDepth 20000 in
theorem gX8_ends_X8_undefinedAs : GoodIn wsX8_ends (va_wsS RX8 92 yX8_undefinedAs wsX8_undefinedAs) := goodIn_app (goodIn_of _ (by decide +kernel)) ggX8_ends_X8_undefinedAs
set_option maxRecDepth 20000 in
theorem ggX8_ends_X8_piecePlace : GoodIn wsX8_ends wsX8_piecePlace := goodIn_r _ [27] (by decide +kernel) (by decide +kernel)
set_option maxRecDepth 20000 in
theorem gX8_ends_X8_piecePlace : GoodIn wsX8_ends (va_wsS RX8 47 yX8_piecePlace wsX8_piecePlace) := goodIn_app (goodIn_of _ (by decide +kernel)) ggX8_ends_X8_piecePlace
set_option maxRecDepth 20000 in
theorem ggX8_setsTo_X8_isRegister : GoodIn wsX8_setsTo wsX8_isRegister := goodIn_r _ [5, 6, 7, 4, 8] (by decide +kernel) (by decide +kernel)
set_option maxRecDepth 20000 in
theorem gX8_setsTo_X8_isRegister : GoodIn wsX8_setsTo (va_wsS RX8 85 yX8_isRegister wsX8_isRegister) := goodIn_app (goodIn_of _ (by decide +kernel)) ggX8_setsTo_X8_isRegister
set_option maxRecDepth 20000 in
theorem ggX8_setsTo_X8_in : GoodIn wsX8_setsTo wsX8_in := goodIn_r _ [8] (by decide +kernel) (by decide +kernel)
set_option maxRecDepth 20000 in
theorem gX8_setsTo_X8_in : GoodIn wsX8_setsTo (va_wsS RX8 51 yX8_in wsX8_in) := goodIn_app (goodIn_of _ (by decide +kernel)) ggX8_setsTo_X8_in
set_option maxRecDepth 20000 in
theorem ggX8_setsTo_X8_tells : GoodIn wsX8_setsTo wsX8_tells := goodIn_r _ [12, 13, 14, 15, 16, 17, 18, 19, 20, 21, 22, 23, 24, 25, 26, 27, 28, 29, 30, 31, 32] (by decide +kernel) (by decide +kernel)
set_option maxRecDepth 20000 in
theorem gX8_setsTo_X8_tells : GoodIn wsX8_setsTo (wsV RX8 88 RX8 yX8_tells wsX8_tells) := goodIn_app (goodIn_of _ (by decide +kernel)) ggX8_setsTo_X8_tells
set_option maxRecDepth 20000 in
theorem ggX8_copiesTo_X8_isRegister : GoodIn wsX8_copiesTo wsX8_isRegister := goodIn_r _ [4, 5, 6, 3, 7] (by decide +kernel) (by decide +kernel)
set_option maxRecDepth 20000 in
theorem gX8_copiesTo_X8_isRegister : GoodIn wsX8_copiesTo (va_wsS RX8 85 yX8_isRegister wsX8_isRegister) := goodIn_app (goodIn_of _ (by decide +kernel)) ggX8_copiesTo_X8_isRegister
set_option maxRecDepth 20000 in
theorem ggX8_copiesTo_X8_kindOf : GoodIn wsX8_copiesTo wsX8_kindOf := goodIn_r _ [11, 12, 25, 26, 27, 28, 29, 30, 31, 32, 33, 34, 35, 36, 37, 38, 39, 40, 41, 42, 43] (by decide +kernel) (by decide +kernel)
set_option maxRecDepth 20000 in
theorem gX8_copiesTo_X8_kindOf : GoodIn wsX8_copiesTo (wsV RX8 55 RX8 yX8_kindOf wsX8_kindOf) := goodIn_app (goodIn_of _ (by decide +kernel)) ggX8_copiesTo_X8_kindOf
set_option maxRecDepth 20000 in
theorem ggX8_copiesTo_X8_valueOf : GoodIn wsX8_copiesTo wsX8_valueOf := goodIn_r _ [16, 12, 25, 26, 27, 28, 29, 30, 31, 32, 33, 34, 35, 36, 37, 38, 39, 40, 41, 42, 43] (by decide +kernel) (by decide +kernel)
set_option maxRecDepth 20000 in
theorem gX8_copiesTo_X8_valueOf : GoodIn wsX8_copiesTo (wsV RX8 58 RX8 yX8_valueOf wsX8_valueOf) := goodIn_app (goodIn_of _ (by decide +kernel)) ggX8_copiesTo_X8_valueOf
set_option maxRecDepth 20000 in
theorem ggX8_copiesTo_X8_placeOf : GoodIn wsX8_copiesTo wsX8_placeOf := goodIn_r _ [20, 12, 25, 26, 27, 28, 29, 30, 31, 32, 33, 34, 35, 36, 37, 38, 39, 40, 41, 42, 43] (by decide +kernel) (by decide +kernel)
set_option maxRecDepth 20000 in
theorem gX8_copiesTo_X8_placeOf : GoodIn wsX8_copiesTo (wsV RX8 65 RX8 yX8_placeOf wsX8_placeOf) := goodIn_app (goodIn_of _ (by decide +kernel)) ggX8_copiesTo_X8_placeOf
set_option maxRecDepth 20000 in
theorem ggX8_copiesTo_X8_tells : GoodIn wsX8_copiesTo wsX8_tells := goodIn_r _ [24, 12, 25, 26, 27, 28, 29, 30, 31, 32, 33, 34, 35, 36, 37, 38, 39, 40, 41, 42, 43] (by decide +kernel) (by decide +kernel)
set_option maxRecDepth 20000 in
theorem gX8_copiesTo_X8_tells : GoodIn wsX8_copiesTo (wsV RX8 88 RX8 yX8_tells wsX8_tells) := goodIn_app (goodIn_of _ (by decide +kernel)) ggX8_copiesTo_X8_tells
set_option maxRecDepth 20000 in
theorem ggX8_movesBy_X8_isRegister : GoodIn wsX8_movesBy wsX8_isRegister := goodIn_r _ [5, 6, 7, 4, 8] (by decide +kernel) (by decide +kernel)
set_option maxRecDepth 20000 in
theorem gX8_movesBy_X8_isRegister : GoodIn wsX8_movesBy (va_wsS RX8 85 yX8_isRegister wsX8_isRegister) := goodIn_app (goodIn_of _ (by decide +kernel)) ggX8_movesBy_X8_isRegister
set_option maxRecDepth 20000 in
theorem ggX8_movesBy_X8_in : GoodIn wsX8_movesBy wsX8_in := goodIn_r _ [8] (by decide +kernel) (by decide +kernel)
set_option maxRecDepth 20000 in
theorem gX8_movesBy_X8_in : GoodIn wsX8_movesBy (va_wsS RX8 51 yX8_in wsX8_in) := goodIn_app (goodIn_of _ (by decide +kernel)) ggX8_movesBy_X8_in
set_option maxRecDepth 20000 in
theorem ggX8_movesBy_X8_kindOf : GoodIn wsX8_movesBy wsX8_kindOf := goodIn_r _ [12, 13, 40, 41, 42, 43, 44, 45, 46, 47, 48, 49, 50, 51, 52, 53, 54, 55, 56, 57, 58] (by decide +kernel) (by decide +kernel)
set_option maxRecDepth 20000 in
theorem gX8_movesBy_X8_kindOf : GoodIn wsX8_movesBy (wsV RX8 55 RX8 yX8_kindOf wsX8_kindOf) := goodIn_app (goodIn_of _ (by decide +kernel)) ggX8_movesBy_X8_kindOf
set_option maxRecDepth 20000 in
theorem ggX8_movesBy_X8_undefinedAs : GoodIn wsX8_movesBy wsX8_undefinedAs := goodIn_r _ [16] (by decide +kernel) (by decide +kernel)
set_option maxRecDepth 20000 in
theorem gX8_movesBy_X8_undefinedAs : GoodIn wsX8_movesBy (va_wsS RX8 92 yX8_undefinedAs wsX8_undefinedAs) := goodIn_app (goodIn_of _ (by decide +kernel)) ggX8_movesBy_X8_undefinedAs
set_option maxRecDepth 20000 in
theorem ggX8_movesBy_X8_valueOf : GoodIn wsX8_movesBy wsX8_valueOf := goodIn_r _ [20, 13, 40, 41, 42, 43, 44, 45, 46, 47, 48, 49, 50, 51, 52, 53, 54, 55, 56, 57, 58] (by decide +kernel) (by decide +kernel)
set_option maxRecDepth 20000 in
theorem gX8_movesBy_X8_valueOf : GoodIn wsX8_movesBy (wsV RX8 58 RX8 yX8_valueOf wsX8_valueOf) := goodIn_app (goodIn_of _ (by decide +kernel)) ggX8_movesBy_X8_valueOf
set_option maxRecDepth 20000 in
theorem ggX8_movesBy_X8_tells : GoodIn wsX8_movesBy wsX8_tells := goodIn_r _ [24, 13, 40, 41, 42, 43, 44, 45, 46, 47, 48, 49, 50, 51, 52, 53, 54, 55, 56, 57, 58] (by decide +kernel) (by decide +kernel)
set_option maxRecDepth 20000 in
theorem gX8_movesBy_X8_tells : GoodIn wsX8_movesBy (wsV RX8 88 RX8 yX8_tells wsX8_tells) := goodIn_app (goodIn_of _ (by decide +kernel)) ggX8_movesBy_X8_tells
set_option maxRecDepth 20000 in
theorem ggX8_movesBy_X8_placeOf : GoodIn wsX8_movesBy wsX8_placeOf := goodIn_r _ [28, 13, 40, 41, 42, 43, 44, 45, 46, 47, 48, 49, 50, 51, 52, 53, 54, 55, 56, 57, 58] (by decide +kernel) (by decide +kernel)
set_option maxRecDepth 20000 in
theorem gX8_movesBy_X8_placeOf : GoodIn wsX8_movesBy (wsV RX8 65 RX8 yX8_placeOf wsX8_placeOf) := goodIn_app (goodIn_of _ (by decide +kernel)) ggX8_movesBy_X8_placeOf
set_option maxRecDepth 20000 in
theorem ggX8_movesBy_X8_isLive : GoodIn wsX8_movesBy wsX8_isLive := goodIn_r _ [32, 13, 33, 34, 4, 35, 40, 41, 42, 43, 44, 45, 46, 47, 48, 49, 50, 51, 52, 53, 54, 55, 56, 57, 58] (by decide +kernel) (by decide +kernel)
set_option maxRecDepth 20000 in
theorem gX8_movesBy_X8_isLive : GoodIn wsX8_movesBy (wsV RX8 61 RX8 yX8_isLive wsX8_isLive) := goodIn_app (goodIn_of _ (by decide +kernel)) ggX8_movesBy_X8_isLive
set_option maxRecDepth 20000 in
theorem ggX8_movesBy_X8_sizeOf : GoodIn wsX8_movesBy wsX8_sizeOf := goodIn_r _ [39, 13, 33, 34, 4, 35, 40, 41, 42, 43, 44, 45, 46, 47, 48, 49, 50, 51, 52, 53, 54, 55, 56, 57, 58] (by decide +kernel) (by decide +kernel)
set_option maxRecDepth 20000 in
theorem gX8_movesBy_X8_sizeOf : GoodIn wsX8_movesBy (wsV RX8 68 RX8 yX8_sizeOf wsX8_sizeOf) := goodIn_app (goodIn_of _ (by decide +kernel)) ggX8_movesBy_X8_sizeOf
set_option maxRecDepth 20000 in
theorem ggX8_storesAt_X8_isRegister : GoodIn wsX8_storesAt wsX8_isRegister := goodIn_r _ [5, 6, 7, 4, 8] (by decide +kernel) (by decide +kernel)
set_option maxRecDepth 20000 in
theorem gX8_storesAt_X8_isRegister : GoodIn wsX8_storesAt (va_wsS RX8 85 yX8_isRegister wsX8_isRegister) := goodIn_app (goodIn_of _ (by decide +kernel)) ggX8_storesAt_X8_isRegister
set_option maxRecDepth 20000 in
theorem ggX8_storesAt_X8_in : GoodIn wsX8_storesAt wsX8_in := goodIn_r _ [8] (by decide +kernel) (by decide +kernel)
set_option maxRecDepth 20000 in
theorem gX8_storesAt_X8_in : GoodIn wsX8_storesAt (va_wsS RX8 51 yX8_in wsX8_in) := goodIn_app (goodIn_of _ (by decide +kernel)) ggX8_storesAt_X8_in
set_option maxRecDepth 20000 in
theorem ggX8_storesAt_X8_notToWrite : GoodIn wsX8_storesAt wsX8_notToWrite := goodIn_r _ [12, 13, 14, 15, 4, 16, 17, 18, 19, 20, 1, 21, 22, 23, 24, 25, 26, 27, 28, 29, 30, 31, 32, 33, 34, 35, 36, 37, 38, 39, 40, 41, 42, 43, 44, 45, 46, 47, 58, 59, 60, 61, 62, 63, 64, 65, 66, 67, 68, 69, 70, 71, 72, 73, 74, 75, 76] (by decide +kernel) (by decide +kernel)
