set_option maxRecDepth 20000 in
theorem gX8_ofRegister_X8_valueOf : GoodIn wsX8_ofRegister (wsV RX8 58 RX8 yX8_valueOf wsX8_valueOf) := goodIn_app (goodIn_of _ (by decide +kernel)) ggX8_ofRegister_X8_valueOf
set_option maxRecDepth 20000 in
theorem ggX8_ofRegister_X8_placeOf : GoodIn wsX8_ofRegister wsX8_placeOf := goodIn_r _ [14, 6, 15, 16, 17, 18, 19, 20, 21, 22, 23, 24, 25, 26, 27, 28, 29, 30, 31, 32, 33] (by decide +kernel) (by decide +kernel)
set_option maxRecDepth 20000 in
theorem gX8_ofRegister_X8_placeOf : GoodIn wsX8_ofRegister (wsV RX8 65 RX8 yX8_placeOf wsX8_placeOf) := goodIn_app (goodIn_of _ (by decide +kernel)) ggX8_ofRegister_X8_placeOf
set_option maxRecDepth 20000 in
theorem ggX8_register_X8_isRegister : GoodIn wsX8_register wsX8_isRegister := goodIn_r _ [4, 5, 6, 3, 7] (by decide +kernel) (by decide +kernel)
set_option maxRecDepth 20000 in
theorem gX8_register_X8_isRegister : GoodIn wsX8_register (va_wsS RX8 85 yX8_isRegister wsX8_isRegister) := goodIn_app (goodIn_of _ (by decide +kernel)) ggX8_register_X8_isRegister
set_option maxRecDepth 20000 in
theorem ggX8_register_X8_in : GoodIn wsX8_register wsX8_in := goodIn_r _ [7] (by decide +kernel) (by decide +kernel)
set_option maxRecDepth 20000 in
theorem gX8_register_X8_in : GoodIn wsX8_register (va_wsS RX8 51 yX8_in wsX8_in) := goodIn_app (goodIn_of _ (by decide +kernel)) ggX8_register_X8_in
set_option maxRecDepth 20000 in
theorem ggX8_register_X8_ofRegister : GoodIn wsX8_register wsX8_ofRegister := goodIn_r _ [11, 12, 13, 14, 3, 15, 16, 17, 18, 19, 20, 21, 22, 23, 24, 30, 31, 32, 33, 34, 35, 36, 37, 38, 39, 40, 41, 42, 43, 44, 45, 46, 47, 48] (by decide +kernel) (by decide +kernel)
set_option maxRecDepth 20000 in
theorem gX8_register_X8_ofRegister : GoodIn wsX8_register (wsV RX8 177 RX8 yX8_ofRegister wsX8_ofRegister) := goodIn_app (goodIn_of _ (by decide +kernel)) ggX8_register_X8_ofRegister
set_option maxRecDepth 20000 in
theorem ggX8_register_X8_bad : GoodIn wsX8_register wsX8_bad := goodIn_r _ [28, 29, 30, 31, 32, 33, 34, 35, 36, 37, 38, 39, 40, 41, 42, 43, 44, 45, 46, 47, 48] (by decide +kernel) (by decide +kernel)
set_option maxRecDepth 20000 in
theorem gX8_register_X8_bad : GoodIn wsX8_register (wsV RX8 174 RX8 yX8_bad wsX8_bad) := goodIn_app (goodIn_of _ (by decide +kernel)) ggX8_register_X8_bad
set_option maxRecDepth 20000 in
theorem ggX8_isPiece_X8_in : GoodIn wsX8_isPiece wsX8_in := goodIn_r _ [5] (by decide +kernel) (by decide +kernel)
set_option maxRecDepth 20000 in
theorem gX8_isPiece_X8_in : GoodIn wsX8_isPiece (va_wsS RX8 51 yX8_in wsX8_in) := goodIn_app (goodIn_of _ (by decide +kernel)) ggX8_isPiece_X8_in
set_option maxRecDepth 20000 in
theorem ggX8_bytesOf_X8_sizeOf : GoodIn wsX8_bytesOf wsX8_sizeOf := goodIn_r _ [6, 1, 7, 8, 5, 9, 13, 14, 15, 16, 17, 18, 19, 20, 21, 22, 23, 24, 25, 26, 27, 28, 29, 30, 31] (by decide +kernel) (by decide +kernel)
set_option maxRecDepth 20000 in
theorem gX8_bytesOf_X8_sizeOf : GoodIn wsX8_bytesOf (wsV RX8 68 RX8 yX8_sizeOf wsX8_sizeOf) := goodIn_app (goodIn_of _ (by decide +kernel)) ggX8_bytesOf_X8_sizeOf
set_option maxRecDepth 20000 in
theorem ggX8_bytesOf_X8_bytePlace : GoodIn wsX8_bytesOf wsX8_bytePlace := goodIn_r _ [12, 7, 8, 5, 9] (by decide +kernel) (by decide +kernel)
set_option maxRecDepth 20000 in
theorem gX8_bytesOf_X8_bytePlace : GoodIn wsX8_bytesOf (va_wsS RX8 81 yX8_bytePlace wsX8_bytePlace) := goodIn_app (goodIn_of _ (by decide +kernel)) ggX8_bytesOf_X8_bytePlace
set_option maxRecDepth 20000 in
theorem ggX8_reachedOf_X8_reaches : GoodIn wsX8_reachedOf wsX8_reaches := goodIn_r _ [6, 7, 1, 8, 9, 10, 11, 5, 12, 13, 14, 15, 16, 17, 18, 19, 20, 21, 22, 23, 24, 25, 26, 27, 28, 29, 30, 31, 32, 33, 34, 35, 36, 37, 38, 39, 40, 41] (by decide +kernel) (by decide +kernel)
set_option maxRecDepth 20000 in
theorem gX8_reachedOf_X8_reaches : GoodIn wsX8_reachedOf (wsV RX8 113 RX8 yX8_reaches wsX8_reaches) := goodIn_app (goodIn_of _ (by decide +kernel)) ggX8_reachedOf_X8_reaches
set_option maxRecDepth 20000 in
theorem ggX8_ofPiece_X8_bytesOf : GoodIn wsX8_ofPiece wsX8_bytesOf := goodIn_r _ [6, 1, 7, 8, 9, 5, 10, 11, 12, 13, 14, 15, 16, 31, 32, 33, 34, 35, 36, 37, 38, 39, 40, 41, 42, 43, 44, 45, 46, 47, 48, 49] (by decide +kernel) (by decide +kernel)
set_option maxRecDepth 20000 in
theorem gX8_ofPiece_X8_bytesOf : GoodIn wsX8_ofPiece (wsV RX8 180 RX8 yX8_bytesOf wsX8_bytesOf) := goodIn_app (goodIn_of _ (by decide +kernel)) ggX8_ofPiece_X8_bytesOf
set_option maxRecDepth 20000 in
theorem ggX8_ofPiece_X8_reachedOf : GoodIn wsX8_ofPiece wsX8_reachedOf := goodIn_r _ [20, 21, 22, 23, 24, 5, 25, 26, 1, 7, 8, 9, 10, 11, 12, 13, 14, 15, 16, 27, 28, 29, 30, 31, 32, 33, 34, 35, 36, 37, 38, 39, 40, 41, 42, 43, 44, 45, 46, 47, 48, 49] (by decide +kernel) (by decide +kernel)
set_option maxRecDepth 20000 in
theorem gX8_ofPiece_X8_reachedOf : GoodIn wsX8_ofPiece (wsV RX8 184 RX8 yX8_reachedOf wsX8_reachedOf) := goodIn_app (goodIn_of _ (by decide +kernel)) ggX8_ofPiece_X8_reachedOf
set_option maxRecDepth 20000 in
theorem ggX8_ofPiece_X8_piecePlace : GoodIn wsX8_ofPiece wsX8_piecePlace := goodIn_r _ [13] (by decide +kernel) (by decide +kernel)
set_option maxRecDepth 20000 in
theorem gX8_ofPiece_X8_piecePlace : GoodIn wsX8_ofPiece (va_wsS RX8 47 yX8_piecePlace wsX8_piecePlace) := goodIn_app (goodIn_of _ (by decide +kernel)) ggX8_ofPiece_X8_piecePlace
set_option maxRecDepth 20000 in
theorem ggX8_piece_X8_isPiece : GoodIn wsX8_piece wsX8_isPiece := goodIn_r _ [5, 6, 7, 8, 4, 9, 47, 48, 49, 50, 51, 52, 53, 54, 55, 56, 57, 58, 59, 60, 61, 62, 63, 64, 65] (by decide +kernel) (by decide +kernel)
set_option maxRecDepth 20000 in
theorem gX8_piece_X8_isPiece : GoodIn wsX8_piece (wsV RX8 187 RX8 yX8_isPiece wsX8_isPiece) := goodIn_app (goodIn_of _ (by decide +kernel)) ggX8_piece_X8_isPiece
set_option maxRecDepth 20000 in
theorem ggX8_piece_X8_in : GoodIn wsX8_piece wsX8_in := goodIn_r _ [9] (by decide +kernel) (by decide +kernel)
set_option maxRecDepth 20000 in
theorem gX8_piece_X8_in : GoodIn wsX8_piece (va_wsS RX8 51 yX8_in wsX8_in) := goodIn_app (goodIn_of _ (by decide +kernel)) ggX8_piece_X8_in
set_option maxRecDepth 20000 in
theorem ggX8_piece_X8_ofPiece : GoodIn wsX8_piece wsX8_ofPiece := goodIn_r _ [13, 6, 14, 15, 16, 4, 17, 18, 19, 20, 21, 22, 23, 24, 25, 26, 27, 28, 29, 30, 31, 32, 33, 34, 35, 36, 37, 38, 39, 40, 41, 47, 48, 49, 50, 51, 52, 53, 54, 55, 56, 57, 58, 59, 60, 61, 62, 63, 64, 65] (by decide +kernel) (by decide +kernel)
set_option maxRecDepth 20000 in
theorem gX8_piece_X8_ofPiece : GoodIn wsX8_piece (wsV RX8 190 RX8 yX8_ofPiece wsX8_ofPiece) := goodIn_app (goodIn_of _ (by decide +kernel)) ggX8_piece_X8_ofPiece
set_option maxRecDepth 20000 in
theorem ggX8_piece_X8_bad : GoodIn wsX8_piece wsX8_bad := goodIn_r _ [45, 46, 47, 48, 49, 50, 51, 52, 53, 54, 55, 56, 57, 58, 59, 60, 61, 62, 63, 64, 65] (by decide +kernel) (by decide +kernel)
set_option maxRecDepth 20000 in
theorem gX8_piece_X8_bad : GoodIn wsX8_piece (wsV RX8 174 RX8 yX8_bad wsX8_bad) := goodIn_app (goodIn_of _ (by decide +kernel)) ggX8_piece_X8_bad
set_option maxRecDepth 20000 in
theorem ggX8_at_X8_isPiece : GoodIn wsX8_at wsX8_isPiece := goodIn_r _ [6, 1, 7, 8, 5, 9, 25, 26, 27, 28, 29, 30, 31, 32, 33, 34, 35, 36, 37, 38, 39, 40, 41, 42, 43] (by decide +kernel) (by decide +kernel)
set_option maxRecDepth 20000 in
theorem gX8_at_X8_isPiece : GoodIn wsX8_at (wsV RX8 187 RX8 yX8_isPiece wsX8_isPiece) := goodIn_app (goodIn_of _ (by decide +kernel)) ggX8_at_X8_isPiece
set_option maxRecDepth 20000 in
theorem ggX8_at_X8_sizeOf : GoodIn wsX8_at wsX8_sizeOf := goodIn_r _ [13, 1, 14, 15, 5, 16, 25, 26, 27, 28, 29, 30, 31, 32, 33, 34, 35, 36, 37, 38, 39, 40, 41, 42, 43] (by decide +kernel) (by decide +kernel)
set_option maxRecDepth 20000 in
theorem gX8_at_X8_sizeOf : GoodIn wsX8_at (wsV RX8 68 RX8 yX8_sizeOf wsX8_sizeOf) := goodIn_app (goodIn_of _ (by decide +kernel)) ggX8_at_X8_sizeOf
set_option maxRecDepth 20000 in
theorem ggX8_at_X8_in : GoodIn wsX8_at wsX8_in := goodIn_r _ [9] (by decide +kernel) (by decide +kernel)
set_option maxRecDepth 20000 in
theorem gX8_at_X8_in : GoodIn wsX8_at (va_wsS RX8 51 yX8_in wsX8_in) := goodIn_app (goodIn_of _ (by decide +kernel)) ggX8_at_X8_in
set_option maxRecDepth 20000 in
theorem ggX8_at_X8_bytePlace : GoodIn wsX8_at wsX8_bytePlace := goodIn_r _ [19, 14, 15, 5, 16] (by decide +kernel) (by decide +kernel)
set_option maxRecDepth 20000 in
theorem gX8_at_X8_bytePlace : GoodIn wsX8_at (va_wsS RX8 81 yX8_bytePlace wsX8_bytePlace) := goodIn_app (goodIn_of _ (by decide +kernel)) ggX8_at_X8_bytePlace
set_option maxRecDepth 20000 in
theorem ggX8_at_X8_bad : GoodIn wsX8_at wsX8_bad := goodIn_r _ [23, 24, 25, 26, 27, 28, 29, 30, 31, 32, 33, 34, 35, 36, 37, 38, 39, 40, 41, 42, 43] (by decide +kernel) (by decide +kernel)
set_option maxRecDepth 20000 in
theorem gX8_at_X8_bad : GoodIn wsX8_at (wsV RX8 174 RX8 yX8_bad wsX8_bad) := goodIn_app (goodIn_of _ (by decide +kernel)) ggX8_at_X8_bad
set_option maxRecDepth 20000 in
theorem ggX8_isImage_X8_in : GoodIn wsX8_isImage wsX8_in := goodIn_r _ [5] (by decide +kernel) (by decide +kernel)
set_option maxRecDepth 20000 in
theorem gX8_isImage_X8_in : GoodIn wsX8_isImage (va_wsS RX8 51 yX8_in wsX8_in) := goodIn_app (goodIn_of _ (by decide +kernel)) ggX8_isImage_X8_in
set_option maxRecDepth 20000 in
theorem ggX8_image_X8_isImage : GoodIn wsX8_image wsX8_isImage := goodIn_r _ [5, 6, 7, 8, 4, 9, 19, 20, 21, 22, 23, 24, 25, 26, 27, 28, 29, 30, 31, 32, 33, 34, 35, 36, 37] (by decide +kernel) (by decide +kernel)
set_option maxRecDepth 20000 in
theorem gX8_image_X8_isImage : GoodIn wsX8_image (wsV RX8 193 RX8 yX8_isImage wsX8_isImage) := goodIn_app (goodIn_of _ (by decide +kernel)) ggX8_image_X8_isImage
set_option maxRecDepth 20000 in
theorem ggX8_image_X8_in : GoodIn wsX8_image wsX8_in := goodIn_r _ [9] (by decide +kernel) (by decide +kernel)
set_option maxRecDepth 20000 in
theorem gX8_image_X8_in : GoodIn wsX8_image (va_wsS RX8 51 yX8_in wsX8_in) := goodIn_app (goodIn_of _ (by decide +kernel)) ggX8_image_X8_in
set_option maxRecDepth 20000 in
theorem ggX8_image_X8_ofImage : GoodIn wsX8_image wsX8_ofImage := goodIn_r _ [13, 6, 19, 20, 21, 22, 23, 24, 25, 26, 27, 28, 29, 30, 31, 32, 33, 34, 35, 36, 37] (by decide +kernel) (by decide +kernel)
set_option maxRecDepth 20000 in
theorem gX8_image_X8_ofImage : GoodIn wsX8_image (wsV RX8 196 RX8 yX8_ofImage wsX8_ofImage) := goodIn_app (goodIn_of _ (by decide +kernel)) ggX8_image_X8_ofImage
set_option maxRecDepth 20000 in
theorem ggX8_image_X8_bad : GoodIn wsX8_image wsX8_bad := goodIn_r _ [17, 18, 19, 20, 21, 22, 23, 24, 25, 26, 27, 28, 29, 30, 31, 32, 33, 34, 35, 36, 37] (by decide +kernel) (by decide +kernel)
set_option maxRecDepth 20000 in
theorem gX8_image_X8_bad : GoodIn wsX8_image (wsV RX8 174 RX8 yX8_bad wsX8_bad) := goodIn_app (goodIn_of _ (by decide +kernel)) ggX8_image_X8_bad
set_option maxRecDepth 20000 in
theorem ggX8_imaged_X8_isImage : GoodIn wsX8_imaged wsX8_isImage := goodIn_r _ [6, 1, 7, 8, 5, 9, 15, 16, 17, 18, 19, 20, 21, 22, 23, 24, 25, 26, 27, 28, 29, 30, 31, 32, 33] (by decide +kernel) (by decide +kernel)
set_option maxRecDepth 20000 in
theorem gX8_imaged_X8_isImage : GoodIn wsX8_imaged (wsV RX8 193 RX8 yX8_isImage wsX8_isImage) := goodIn_app (goodIn_of _ (by decide +kernel)) ggX8_imaged_X8_isImage
set_option maxRecDepth 20000 in
theorem ggX8_imaged_X8_in : GoodIn wsX8_imaged wsX8_in := goodIn_r _ [9] (by decide +kernel) (by decide +kernel)
set_option maxRecDepth 20000 in
theorem gX8_imaged_X8_in : GoodIn wsX8_imaged (va_wsS RX8 51 yX8_in wsX8_in) := goodIn_app (goodIn_of _ (by decide +kernel)) ggX8_imaged_X8_in
set_option maxRecDepth 20000 in
theorem ggX8_imaged_X8_bad : GoodIn wsX8_imaged wsX8_bad := goodIn_r _ [13, 14, 15, 16, 17, 18, 19, 20, 21, 22, 23, 24, 25, 26, 27, 28, 29, 30, 31, 32, 33] (by decide +kernel) (by decide +kernel)
set_option maxRecDepth 20000 in
theorem gX8_imaged_X8_bad : GoodIn wsX8_imaged (wsV RX8 174 RX8 yX8_bad wsX8_bad) := goodIn_app (goodIn_of _ (by decide +kernel)) ggX8_imaged_X8_bad
set_option maxRecDepth 20000 in
theorem ggX8_like_X8_isPiece : GoodIn wsX8_like wsX8_isPiece := goodIn_r _ [6, 7, 8, 9, 5, 10, 52, 53, 54, 55, 56, 57, 58, 59, 60, 61, 62, 63, 64, 65, 66, 67, 68, 69, 70] (by decide +kernel) (by decide +kernel)
set_option maxRecDepth 20000 in
theorem gX8_like_X8_isPiece : GoodIn wsX8_like (wsV RX8 187 RX8 yX8_isPiece wsX8_isPiece) := goodIn_app (goodIn_of _ (by decide +kernel)) ggX8_like_X8_isPiece
set_option maxRecDepth 20000 in
theorem ggX8_like_X8_bad : GoodIn wsX8_like wsX8_bad := goodIn_r _ [14, 1, 52, 53, 54, 55, 56, 57, 58, 59, 60, 61, 62, 63, 64, 65, 66, 67, 68, 69, 70] (by decide +kernel) (by decide +kernel)
set_option maxRecDepth 20000 in
theorem gX8_like_X8_bad : GoodIn wsX8_like (wsV RX8 174 RX8 yX8_bad wsX8_bad) := goodIn_app (goodIn_of _ (by decide +kernel)) ggX8_like_X8_bad
set_option maxRecDepth 20000 in
theorem ggX8_like_X8_reaches : GoodIn wsX8_like wsX8_reaches := goodIn_r _ [18, 19, 20, 7, 21, 22, 23, 5, 24, 25, 26, 27, 28, 29, 30, 31, 32, 33, 34, 52, 53, 54, 55, 56, 57, 58, 59, 60, 61, 62, 63, 64, 65, 66, 67, 68, 69, 70] (by decide +kernel) (by decide +kernel)
set_option maxRecDepth 20000 in
theorem gX8_like_X8_reaches : GoodIn wsX8_like (wsV RX8 113 RX8 yX8_reaches wsX8_reaches) := goodIn_app (goodIn_of _ (by decide +kernel)) ggX8_like_X8_reaches
set_option maxRecDepth 20000 in
theorem ggX8_like_X8_allLive : GoodIn wsX8_like wsX8_allLive := goodIn_r _ [38, 20, 19, 39, 40, 41, 5, 42, 7, 25, 26, 27, 52, 53, 54, 55, 56, 57, 58, 59, 60, 61, 62, 63, 64, 65, 66, 67, 68, 69, 70] (by decide +kernel) (by decide +kernel)
set_option maxRecDepth 20000 in
theorem gX8_like_X8_allLive : GoodIn wsX8_like (wsV RX8 117 RX8 yX8_allLive wsX8_allLive) := goodIn_app (goodIn_of _ (by decide +kernel)) ggX8_like_X8_allLive
set_option maxRecDepth 20000 in
theorem ggX8_like_X8_laysImage : GoodIn wsX8_like wsX8_laysImage := goodIn_r _ [46, 47, 20, 19, 7, 21, 22, 23, 5, 24, 25, 26, 27, 28, 29, 30, 31, 32, 33, 34, 52, 53, 54, 55, 56, 57, 58, 59, 60, 61, 62, 63, 64, 65, 66, 67, 68, 69, 70] (by decide +kernel) (by decide +kernel)
set_option maxRecDepth 20000 in
theorem gX8_like_X8_laysImage : GoodIn wsX8_like (wsV RX8 121 RX8 yX8_laysImage wsX8_laysImage) := goodIn_app (goodIn_of _ (by decide +kernel)) ggX8_like_X8_laysImage
set_option maxRecDepth 20000 in
theorem ggX8_like_X8_imageLaid : GoodIn wsX8_like wsX8_imageLaid := goodIn_r _ [51, 7, 47, 52, 53, 54, 55, 56, 57, 58, 59, 60, 61, 62, 63, 64, 65, 66, 67, 68, 69, 70] (by decide +kernel) (by decide +kernel)
set_option maxRecDepth 20000 in
theorem gX8_like_X8_imageLaid : GoodIn wsX8_like (wsV RX8 124 RX8 yX8_imageLaid wsX8_imageLaid) := goodIn_app (goodIn_of _ (by decide +kernel)) ggX8_like_X8_imageLaid
set_option maxRecDepth 20000 in
theorem ggX8_livePieces_X8_isLive : GoodIn wsX8_livePieces wsX8_isLive := goodIn_r _ [6, 1, 7, 8, 5, 9, 10, 11, 12, 13, 14, 15, 16, 17, 18, 19, 20, 21, 22, 23, 24, 25, 26, 27, 28] (by decide +kernel) (by decide +kernel)
set_option maxRecDepth 20000 in
theorem gX8_livePieces_X8_isLive : GoodIn wsX8_livePieces (wsV RX8 61 RX8 yX8_isLive wsX8_isLive) := goodIn_app (goodIn_of _ (by decide +kernel)) ggX8_livePieces_X8_isLive
set_option maxRecDepth 20000 in
theorem ggX8_countOf_X8_livePieces : GoodIn wsX8_countOf wsX8_livePieces := goodIn_r _ [10, 1, 11, 12, 13, 9, 14, 15, 16, 17, 18, 19, 20, 21, 22, 23, 24, 25, 26, 27, 28, 29, 30, 31, 32, 33, 34, 35, 36] (by decide +kernel) (by decide +kernel)
set_option maxRecDepth 20000 in
theorem gX8_countOf_X8_livePieces : GoodIn wsX8_countOf (wsV RX8 199 RX8 yX8_livePieces wsX8_livePieces) := goodIn_app (goodIn_of _ (by decide +kernel)) ggX8_countOf_X8_livePieces
set_option maxRecDepth 20000 in
theorem ggX8_count_X8_in : GoodIn wsX8_count wsX8_in := goodIn_r _ [4] (by decide +kernel) (by decide +kernel)
set_option maxRecDepth 20000 in
theorem gX8_count_X8_in : GoodIn wsX8_count (va_wsS RX8 51 yX8_in wsX8_in) := goodIn_app (goodIn_of _ (by decide +kernel)) ggX8_count_X8_in
set_option maxRecDepth 20000 in
theorem ggX8_count_X8_countOf : GoodIn wsX8_count wsX8_countOf := goodIn_r _ [8, 9, 10, 11, 12, 13, 14, 15, 16, 3, 17, 18, 19, 20, 21, 22, 23, 24, 29, 30, 31, 32, 33, 34, 35, 36, 37, 38, 39, 40, 41, 42, 43, 44, 45, 46, 47] (by decide +kernel) (by decide +kernel)
set_option maxRecDepth 20000 in
theorem gX8_count_X8_countOf : GoodIn wsX8_count (wsV RX8 205 RX8 yX8_countOf wsX8_countOf) := goodIn_app (goodIn_of _ (by decide +kernel)) ggX8_count_X8_countOf
set_option maxRecDepth 20000 in
theorem ggX8_count_X8_bad : GoodIn wsX8_count wsX8_bad := goodIn_r _ [28, 13, 29, 30, 31, 32, 33, 34, 35, 36, 37, 38, 39, 40, 41, 42, 43, 44, 45, 46, 47] (by decide +kernel) (by decide +kernel)
set_option maxRecDepth 20000 in
theorem gX8_count_X8_bad : GoodIn wsX8_count (wsV RX8 174 RX8 yX8_bad wsX8_bad) := goodIn_app (goodIn_of _ (by decide +kernel)) ggX8_count_X8_bad
set_option maxRecDepth 20000 in
theorem ggX8_undefined_X8_in : GoodIn wsX8_undefined wsX8_in := goodIn_r _ [5] (by decide +kernel) (by decide +kernel)
set_option maxRecDepth 20000 in
theorem gX8_undefined_X8_in : GoodIn wsX8_undefined (va_wsS RX8 51 yX8_in wsX8_in) := goodIn_app (goodIn_of _ (by decide +kernel)) ggX8_undefined_X8_in
set_option maxRecDepth 20000 in
theorem ggX8_undefined_X8_bad : GoodIn wsX8_undefined wsX8_bad := goodIn_r _ [9, 10, 11, 12, 13, 14, 15, 16, 17, 18, 19, 20, 21, 22, 23, 24, 25, 26, 27, 28, 29] (by decide +kernel) (by decide +kernel)
set_option maxRecDepth 20000 in
theorem gX8_undefined_X8_bad : GoodIn wsX8_undefined (wsV RX8 174 RX8 yX8_bad wsX8_bad) := goodIn_app (goodIn_of _ (by decide +kernel)) ggX8_undefined_X8_bad
set_option maxRecDepth 20000 in
theorem ggX8_type_X8_in : GoodIn wsX8_type wsX8_in := goodIn_r _ [7] (by decide +kernel) (by decide +kernel)
set_option maxRecDepth 20000 in
theorem gX8_type_X8_in : GoodIn wsX8_type (va_wsS RX8 51 yX8_in wsX8_in) := goodIn_app (goodIn_of _ (by decide +kernel)) ggX8_type_X8_in
set_option maxRecDepth 20000 in
theorem ggX8_type_X8_bad : GoodIn wsX8_type wsX8_bad := goodIn_r _ [11, 2, 12, 13, 14, 15, 16, 17, 18, 19, 20, 21, 22, 23, 24, 25, 26, 27, 28, 29, 30] (by decide +kernel) (by decide +kernel)
set_option maxRecDepth 20000 in
theorem gX8_type_X8_bad : GoodIn wsX8_type (wsV RX8 174 RX8 yX8_bad wsX8_bad) := goodIn_app (goodIn_of _ (by decide +kernel)) ggX8_type_X8_bad
set_option maxRecDepth 20000 in
theorem ggX8_isAt_X8_in : GoodIn wsX8_isAt wsX8_in := goodIn_r _ [7] (by decide +kernel) (by decide +kernel)
set_option maxRecDepth 20000 in
theorem gX8_isAt_X8_in : GoodIn wsX8_isAt (va_wsS RX8 51 yX8_in wsX8_in) := goodIn_app (goodIn_of _ (by decide +kernel)) ggX8_isAt_X8_in
set_option maxRecDepth 20000 in
theorem ggX8_blanks_X8_isAt : GoodIn wsX8_blanks wsX8_isAt := goodIn_r _ [6, 1, 7, 8, 9, 10, 5, 11, 12, 13, 14, 15, 16, 17, 18, 19, 20, 21, 22, 23, 24, 25, 26, 27, 28, 29, 30] (by decide +kernel) (by decide +kernel)
set_option maxRecDepth 20000 in
theorem gX8_blanks_X8_isAt : GoodIn wsX8_blanks (wsV RX8 211 RX8 yX8_isAt wsX8_isAt) := goodIn_app (goodIn_of _ (by decide +kernel)) ggX8_blanks_X8_isAt
set_option maxRecDepth 20000 in
theorem ggX8_takesNumber_X8_blanks : GoodIn wsX8_takesNumber wsX8_blanks := goodIn_r _ [8, 1, 9, 10, 11, 7, 12, 13, 2, 14, 15, 16, 22, 23, 24, 25, 26, 27, 28, 29, 30, 31, 32, 33, 34, 35, 36, 37, 38, 39, 40] (by decide +kernel) (by decide +kernel)
set_option maxRecDepth 20000 in
theorem gX8_takesNumber_X8_blanks : GoodIn wsX8_takesNumber (wsV RX8 217 RX8 yX8_blanks wsX8_blanks) := goodIn_app (goodIn_of _ (by decide +kernel)) ggX8_takesNumber_X8_blanks
set_option maxRecDepth 20000 in
theorem ggX8_takesNumber_X8_isAt : GoodIn wsX8_takesNumber wsX8_isAt := goodIn_r _ [12, 1, 13, 2, 14, 15, 7, 16, 22, 23, 24, 25, 26, 27, 28, 29, 30, 31, 32, 33, 34, 35, 36, 37, 38, 39, 40] (by decide +kernel) (by decide +kernel)
set_option maxRecDepth 20000 in
theorem gX8_takesNumber_X8_isAt : GoodIn wsX8_takesNumber (wsV RX8 211 RX8 yX8_isAt wsX8_isAt) := goodIn_app (goodIn_of _ (by decide +kernel)) ggX8_takesNumber_X8_isAt
set_option maxRecDepth 20000 in
theorem ggX8_takesNumber_X8_fails : GoodIn wsX8_takesNumber wsX8_fails := goodIn_r _ [20, 21, 22, 23, 24, 25, 26, 27, 28, 29, 30, 31, 32, 33, 34, 35, 36, 37, 38, 39, 40] (by decide +kernel) (by decide +kernel)
set_option maxRecDepth 20000 in
theorem gX8_takesNumber_X8_fails : GoodIn wsX8_takesNumber (wsV RX8 220 RX8 yX8_fails wsX8_fails) := goodIn_app (goodIn_of _ (by decide +kernel)) ggX8_takesNumber_X8_fails
set_option maxRecDepth 20000 in
theorem ggX8_takesOrder_X8_manyOf : GoodIn wsX8_takesOrder wsX8_manyOf := goodIn_r _ [8] (by decide +kernel) (by decide +kernel)
set_option maxRecDepth 20000 in
theorem gX8_takesOrder_X8_manyOf : GoodIn wsX8_takesOrder (va_wsS RX8 223 yX8_manyOf wsX8_manyOf) := goodIn_app (goodIn_of _ (by decide +kernel)) ggX8_takesOrder_X8_manyOf
set_option maxRecDepth 20000 in
theorem ggX8_takesOrder_X8_fails : GoodIn wsX8_takesOrder wsX8_fails := goodIn_r _ [12, 13, 31, 32, 33, 34, 35, 36, 37, 38, 39, 40, 41, 42, 43, 44, 45, 46, 47, 48, 49] (by decide +kernel) (by decide +kernel)
set_option maxRecDepth 20000 in
theorem gX8_takesOrder_X8_fails : GoodIn wsX8_takesOrder (wsV RX8 220 RX8 yX8_fails wsX8_fails) := goodIn_app (goodIn_of _ (by decide +kernel)) ggX8_takesOrder_X8_fails
set_option maxRecDepth 20000 in
theorem ggX8_takesOrder_X8_takesNumber : GoodIn wsX8_takesOrder wsX8_takesNumber := goodIn_r _ [17, 2, 1, 18, 19, 20, 21, 7, 22, 23, 24, 25, 26, 27, 28, 29, 30, 9, 10, 11, 12, 13, 31, 32, 33, 34, 35, 36, 37, 38, 39, 40, 41, 42, 43, 44, 45, 46, 47, 48, 49] (by decide +kernel) (by decide +kernel)
set_option maxRecDepth 20000 in
theorem gX8_takesOrder_X8_takesNumber : GoodIn wsX8_takesOrder (wsV RX8 229 RX8 yX8_takesNumber wsX8_takesNumber) := goodIn_app (goodIn_of _ (by decide +kernel)) ggX8_takesOrder_X8_takesNumber
set_option maxRecDepth 20000 in
theorem ggX8_takesOrder_X8_blanks : GoodIn wsX8_takesOrder wsX8_blanks := goodIn_r _ [22, 2, 23, 24, 25, 7, 26, 27, 1, 28, 29, 30, 31, 32, 33, 34, 35, 36, 37, 38, 39, 40, 41, 42, 43, 44, 45, 46, 47, 48, 49] (by decide +kernel) (by decide +kernel)
set_option maxRecDepth 20000 in
theorem gX8_takesOrder_X8_blanks : GoodIn wsX8_takesOrder (wsV RX8 217 RX8 yX8_blanks wsX8_blanks) := goodIn_app (goodIn_of _ (by decide +kernel)) ggX8_takesOrder_X8_blanks
set_option maxRecDepth 20000 in
theorem ggX8_takesOrder_X8_isAt : GoodIn wsX8_takesOrder wsX8_isAt := goodIn_r _ [26, 2, 27, 1, 28, 29, 7, 30, 31, 32, 33, 34, 35, 36, 37, 38, 39, 40, 41, 42, 43, 44, 45, 46, 47, 48, 49] (by decide +kernel) (by decide +kernel)
set_option maxRecDepth 20000 in
theorem gX8_takesOrder_X8_isAt : GoodIn wsX8_takesOrder (wsV RX8 211 RX8 yX8_isAt wsX8_isAt) := goodIn_app (goodIn_of _ (by decide +kernel)) ggX8_takesOrder_X8_isAt
set_option maxRecDepth 20000 in
theorem ggX8_isRead_X8_blanks : GoodIn wsX8_isRead wsX8_blanks := goodIn_r _ [8, 1, 9, 10, 11, 7, 12, 3, 13, 14, 15, 16, 35, 36, 37, 38, 39, 40, 41, 42, 43, 44, 45, 46, 47, 48, 49, 50, 51, 52, 53] (by decide +kernel) (by decide +kernel)
set_option maxRecDepth 20000 in
theorem gX8_isRead_X8_blanks : GoodIn wsX8_isRead (wsV RX8 217 RX8 yX8_blanks wsX8_blanks) := goodIn_app (goodIn_of _ (by decide +kernel)) ggX8_isRead_X8_blanks
set_option maxRecDepth 20000 in
theorem ggX8_isRead_X8_takesOrder : GoodIn wsX8_isRead wsX8_takesOrder := goodIn_r _ [20, 13, 1, 21, 2, 22, 23, 7, 24, 25, 26, 27, 28, 29, 30, 31, 32, 33, 34, 4, 5, 6, 8, 9, 10, 11, 12, 3, 14, 15, 16, 35, 36, 37, 38, 39, 40, 41, 42, 43, 44, 45, 46, 47, 48, 49, 50, 51, 52, 53] (by decide +kernel) (by decide +kernel)
set_option maxRecDepth 20000 in
theorem gX8_isRead_X8_takesOrder : GoodIn wsX8_isRead (wsV RX8 233 RX8 yX8_takesOrder wsX8_takesOrder) := goodIn_app (goodIn_of _ (by decide +kernel)) ggX8_isRead_X8_takesOrder
set_option maxRecDepth 20000 in
theorem ggX8_isRead_X8_fails : GoodIn wsX8_isRead wsX8_fails := goodIn_r _ [28, 29, 35, 36, 37, 38, 39, 40, 41, 42, 43, 44, 45, 46, 47, 48, 49, 50, 51, 52, 53] (by decide +kernel) (by decide +kernel)
set_option maxRecDepth 20000 in
theorem gX8_isRead_X8_fails : GoodIn wsX8_isRead (wsV RX8 220 RX8 yX8_fails wsX8_fails) := goodIn_app (goodIn_of _ (by decide +kernel)) ggX8_isRead_X8_fails
set_option maxRecDepth 20000 in
theorem ggX8_steps_X8_jumps : GoodIn wsX8_steps wsX8_jumps := goodIn_r _ [8, 2, 9, 10, 7, 11, 12, 13, 14, 15, 16, 17, 18, 19, 20, 21, 22, 23, 24, 25, 26, 143, 144, 145, 146, 147, 148, 149, 150, 151, 152, 153, 154, 155, 156, 157, 158, 159, 160, 161] (by decide +kernel) (by decide +kernel)
set_option maxRecDepth 20000 in
theorem gX8_steps_X8_jumps : GoodIn wsX8_steps (wsV RX8 239 RX8 yX8_jumps wsX8_jumps) := goodIn_app (goodIn_of _ (by decide +kernel)) ggX8_steps_X8_jumps
set_option maxRecDepth 20000 in
theorem ggX8_steps_X8_acts : GoodIn wsX8_steps wsX8_acts := goodIn_r _ [30, 31, 32, 33, 7, 34, 19, 9, 10, 11, 12, 13, 14, 35, 36, 37, 38, 39, 40, 41, 42, 43, 44, 45, 46, 47, 48, 49, 15, 16, 17, 18, 23, 24, 25, 26, 50, 51, 52, 53, 54, 55, 56, 57, 58, 59, 60, 61, 20, 21, 22, 62, 63, 64, 65, 66, 67, 68, 69, 70, 71, 72, 73, 74, 75, 76, 77, 78, 79, 80, 81, 82, 83, 84, 85, 86, 87, 88, 89, 90, 91, 92, 93, 94, 95, 96, 97, 98, 99, 100, 101, 102, 103, 104, 105, 106, 107, 108, 109, 110, 111, 112, 113, 114, 115, 116, 117, 118, 119, 120, 121, 122, 123, 124, 125, 126, 127, 128, 129, 130, 131, 132, 133, 134, 135, 136, 137, 138, 143, 144, 145, 146, 147, 148, 149, 150, 151, 152, 153, 154, 155, 156, 157, 158, 159, 160, 161] (by decide +kernel) (by decide +kernel)
set_option maxRecDepth 20000 in
theorem gX8_steps_X8_acts : GoodIn wsX8_steps (wsV RX8 159 RX8 yX8_acts wsX8_acts) := goodIn_app (goodIn_of _ (by decide +kernel)) ggX8_steps_X8_acts
set_option maxRecDepth 20000 in
theorem ggX8_steps_X8_isRegister : GoodIn wsX8_steps wsX8_isRegister := goodIn_r _ [11, 12, 13, 7, 14] (by decide +kernel) (by decide +kernel)
set_option maxRecDepth 20000 in
theorem gX8_steps_X8_isRegister : GoodIn wsX8_steps (va_wsS RX8 85 yX8_isRegister wsX8_isRegister) := goodIn_app (goodIn_of _ (by decide +kernel)) ggX8_steps_X8_isRegister
set_option maxRecDepth 20000 in
theorem ggX8_steps_X8_comparesTo : GoodIn wsX8_steps wsX8_comparesTo := goodIn_r _ [142, 9, 10, 7, 11, 12, 13, 14, 15, 16, 17, 18, 19, 20, 21, 22, 23, 24, 25, 26, 54, 55, 56, 57, 143, 144, 145, 146, 147, 148, 149, 150, 151, 152, 153, 154, 155, 156, 157, 158, 159, 160, 161] (by decide +kernel) (by decide +kernel)
set_option maxRecDepth 20000 in
theorem gX8_steps_X8_comparesTo : GoodIn wsX8_steps (wsV RX8 171 RX8 yX8_comparesTo wsX8_comparesTo) := goodIn_app (goodIn_of _ (by decide +kernel)) ggX8_steps_X8_comparesTo
set_option maxRecDepth 20000 in
theorem ggX8_steps_X8_tells : GoodIn wsX8_steps wsX8_tells := goodIn_r _ [41, 19, 143, 144, 145, 146, 147, 148, 149, 150, 151, 152, 153, 154, 155, 156, 157, 158, 159, 160, 161] (by decide +kernel) (by decide +kernel)
set_option maxRecDepth 20000 in
theorem gX8_steps_X8_tells : GoodIn wsX8_steps (wsV RX8 88 RX8 yX8_tells wsX8_tells) := goodIn_app (goodIn_of _ (by decide +kernel)) ggX8_steps_X8_tells
set_option maxRecDepth 20000 in
theorem ggX8_jumps_X8_isRegister : GoodIn wsX8_jumps wsX8_isRegister := goodIn_r _ [5, 6, 7, 4, 8] (by decide +kernel) (by decide +kernel)
set_option maxRecDepth 20000 in
theorem gX8_jumps_X8_isRegister : GoodIn wsX8_jumps (va_wsS RX8 85 yX8_isRegister wsX8_isRegister) := goodIn_app (goodIn_of _ (by decide +kernel)) ggX8_jumps_X8_isRegister
set_option maxRecDepth 20000 in
theorem ggX8_jumps_X8_kindOf : GoodIn wsX8_jumps wsX8_kindOf := goodIn_r _ [12, 13, 21, 22, 23, 24, 25, 26, 27, 28, 29, 30, 31, 32, 33, 34, 35, 36, 37, 38, 39] (by decide +kernel) (by decide +kernel)
set_option maxRecDepth 20000 in
theorem gX8_jumps_X8_kindOf : GoodIn wsX8_jumps (wsV RX8 55 RX8 yX8_kindOf wsX8_kindOf) := goodIn_app (goodIn_of _ (by decide +kernel)) ggX8_jumps_X8_kindOf
set_option maxRecDepth 20000 in
theorem ggX8_jumps_X8_undefinedAs : GoodIn wsX8_jumps wsX8_undefinedAs := goodIn_r _ [16] (by decide +kernel) (by decide +kernel)
set_option maxRecDepth 20000 in
theorem gX8_jumps_X8_undefinedAs : GoodIn wsX8_jumps (va_wsS RX8 92 yX8_undefinedAs wsX8_undefinedAs) := goodIn_app (goodIn_of _ (by decide +kernel)) ggX8_jumps_X8_undefinedAs
set_option maxRecDepth 20000 in
theorem ggX8_jumps_X8_valueOf : GoodIn wsX8_jumps wsX8_valueOf := goodIn_r _ [20, 13, 21, 22, 23, 24, 25, 26, 27, 28, 29, 30, 31, 32, 33, 34, 35, 36, 37, 38, 39] (by decide +kernel) (by decide +kernel)
set_option maxRecDepth 20000 in
theorem gX8_jumps_X8_valueOf : GoodIn wsX8_jumps (wsV RX8 58 RX8 yX8_valueOf wsX8_valueOf) := goodIn_app (goodIn_of _ (by decide +kernel)) ggX8_jumps_X8_valueOf
set_option maxRecDepth 20000 in
theorem ggX8_goes_X8_steps : GoodIn wsX8_goes wsX8_steps := goodIn_r _ [8, 9, 3, 10, 11, 12, 13, 7, 14, 15, 16, 17, 18, 19, 20, 21, 22, 23, 24, 2, 25, 26, 27, 28, 29, 30, 31, 32, 33, 34, 35, 36, 37, 38, 39, 40, 41, 42, 43, 44, 45, 46, 47, 48, 49, 50, 51, 52, 53, 54, 55, 56, 57, 58, 59, 60, 61, 62, 63, 64, 65, 66, 67, 68, 69, 70, 71, 72, 73, 74, 75, 76, 77, 78, 79, 80, 81, 82, 83, 84, 85, 86, 87, 88, 89, 90, 91, 92, 93, 94, 95, 96, 97, 98, 99, 100, 101, 102, 103, 104, 105, 106, 107, 108, 109, 110, 111, 112, 113, 114, 115, 116, 117, 118, 119, 120, 121, 122, 123, 124, 125, 126, 127, 128, 129, 130, 131, 132, 133, 134, 135, 136, 137, 138, 139, 140, 141, 142, 143, 144, 145, 146, 147, 151, 152, 153, 154, 155, 156, 157, 158, 159, 160, 161, 162, 163, 164, 165, 166, 167, 168, 169] (by decide +kernel) (by decide +kernel)
set_option maxRecDepth 20000 in
theorem gX8_goes_X8_steps : GoodIn wsX8_goes (wsV RX8 242 RX8 yX8_steps wsX8_steps) := goodIn_app (goodIn_of _ (by decide +kernel)) ggX8_goes_X8_steps
set_option maxRecDepth 20000 in
theorem ggX8_goes_X8_toldAs : GoodIn wsX8_goes wsX8_toldAs := goodIn_r _ [150] (by decide +kernel) (by decide +kernel)
set_option maxRecDepth 20000 in
theorem gX8_goes_X8_toldAs : GoodIn wsX8_goes (va_wsS RX8 245 yX8_toldAs wsX8_toldAs) := goodIn_app (goodIn_of _ (by decide +kernel)) ggX8_goes_X8_toldAs
set_option maxRecDepth 20000 in
theorem ggX8_does_X8_isRead : GoodIn wsX8_does wsX8_isRead := goodIn_r _ [8, 9, 10, 11, 12, 13, 14, 7, 15, 16, 17, 18, 19, 20, 21, 22, 23, 24, 25, 26, 27, 28, 29, 30, 31, 32, 33, 34, 35, 1, 36, 37, 38, 39, 40, 197, 198, 199, 200, 201, 202, 203, 204, 205, 206, 207, 208, 209, 210, 211, 212, 213, 214, 215] (by decide +kernel) (by decide +kernel)
set_option maxRecDepth 20000 in
theorem gX8_does_X8_isRead : GoodIn wsX8_does (wsV RX8 248 RX8 yX8_isRead wsX8_isRead) := goodIn_app (goodIn_of _ (by decide +kernel)) ggX8_does_X8_isRead
set_option maxRecDepth 20000 in
theorem ggX8_does_X8_copies : GoodIn wsX8_does wsX8_copies := goodIn_r _ [44, 3, 2, 197, 198, 199, 200, 201, 202, 203, 204, 205, 206, 207, 208, 209, 210, 211, 212, 213, 214, 215] (by decide +kernel) (by decide +kernel)
set_option maxRecDepth 20000 in
theorem gX8_does_X8_copies : GoodIn wsX8_does (wsV RX8 156 RX8 yX8_copies wsX8_copies) := goodIn_app (goodIn_of _ (by decide +kernel)) ggX8_does_X8_copies
set_option maxRecDepth 20000 in
theorem ggX8_does_X8_goes : GoodIn wsX8_does wsX8_goes := goodIn_r _ [48, 10, 2, 49, 50, 51, 52, 7, 53, 40, 28, 54, 55, 56, 57, 58, 59, 60, 21, 22, 23, 61, 62, 63, 64, 65, 66, 67, 68, 69, 70, 71, 72, 73, 74, 75, 76, 77, 78, 79, 80, 81, 82, 83, 84, 85, 86, 87, 88, 89, 90, 91, 92, 93, 94, 95, 96, 97, 98, 99, 100, 101, 102, 103, 104, 105, 106, 107, 108, 109, 110, 111, 112, 113, 114, 115, 116, 117, 118, 119, 120, 121, 122, 123, 124, 125, 126, 127, 128, 129, 130, 131, 132, 133, 134, 135, 136, 137, 138, 139, 140, 141, 142, 143, 144, 145, 146, 147, 148, 149, 150, 151, 152, 153, 154, 155, 156, 157, 158, 159, 160, 161, 162, 163, 164, 165, 166, 167, 168, 169, 170, 171, 172, 173, 174, 175, 176, 177, 178, 179, 180, 181, 182, 183, 184, 185, 186, 187, 188, 189, 190, 197, 198, 199, 200, 201, 202, 203, 204, 205, 206, 207, 208, 209, 210, 211, 212, 213, 214, 215] (by decide +kernel) (by decide +kernel)
set_option maxRecDepth 20000 in
theorem gX8_does_X8_goes : GoodIn wsX8_does (wsV RX8 251 RX8 yX8_goes wsX8_goes) := goodIn_app (goodIn_of _ (by decide +kernel)) ggX8_does_X8_goes
set_option maxRecDepth 20000 in
theorem ggX8_does_X8_remembers : GoodIn wsX8_does wsX8_remembers := goodIn_r _ [194, 195, 196, 3, 197, 198, 199, 200, 201, 202, 203, 204, 205, 206, 207, 208, 209, 210, 211, 212, 213, 214, 215] (by decide +kernel) (by decide +kernel)
set_option maxRecDepth 20000 in
theorem gX8_does_X8_remembers : GoodIn wsX8_does (wsV RX8 162 RX8 yX8_remembers wsX8_remembers) := goodIn_app (goodIn_of _ (by decide +kernel)) ggX8_does_X8_remembers
set_option maxRecDepth 20000 in
theorem ggX8_mixImage_X8_ofImage : GoodIn wsX8_mixImage wsX8_ofImage := goodIn_r _ [6, 1, 13, 14, 15, 16, 17, 18, 19, 20, 21, 22, 23, 24, 25, 26, 27, 28, 29, 30, 31] (by decide +kernel) (by decide +kernel)
set_option maxRecDepth 20000 in
theorem gX8_mixImage_X8_ofImage : GoodIn wsX8_mixImage (wsV RX8 196 RX8 yX8_ofImage wsX8_ofImage) := goodIn_app (goodIn_of _ (by decide +kernel)) ggX8_mixImage_X8_ofImage
set_option maxRecDepth 20000 in
theorem ggX8_mixImage_X8_mix : GoodIn wsX8_mixImage wsX8_mix := goodIn_r _ [10, 11, 12, 13, 14, 15, 16, 17, 18, 19, 20, 21, 22, 23, 24, 25, 26, 27, 28, 29, 30, 31] (by decide +kernel) (by decide +kernel)
set_option maxRecDepth 20000 in
theorem gX8_mixImage_X8_mix : GoodIn wsX8_mixImage (wsV RX8 260 RX8 yX8_mix wsX8_mix) := goodIn_app (goodIn_of _ (by decide +kernel)) ggX8_mixImage_X8_mix
set_option maxRecDepth 20000 in
theorem ggX8_digest_X8_countOf : GoodIn wsX8_digest wsX8_countOf := goodIn_r _ [9, 4, 3, 10, 11, 12, 13, 14, 15, 8, 16, 17, 18, 19, 20, 21, 22, 23, 82, 83, 84, 85, 86, 87, 88, 89, 90, 91, 92, 93, 94, 95, 96, 97, 98, 99, 100] (by decide +kernel) (by decide +kernel)
set_option maxRecDepth 20000 in
theorem gX8_digest_X8_countOf : GoodIn wsX8_digest (wsV RX8 205 RX8 yX8_countOf wsX8_countOf) := goodIn_app (goodIn_of _ (by decide +kernel)) ggX8_digest_X8_countOf
set_option maxRecDepth 20000 in
theorem ggX8_digest_X8_mix : GoodIn wsX8_digest wsX8_mix := goodIn_r _ [27, 28, 2, 82, 83, 84, 85, 86, 87, 88, 89, 90, 91, 92, 93, 94, 95, 96, 97, 98, 99, 100] (by decide +kernel) (by decide +kernel)
set_option maxRecDepth 20000 in
theorem gX8_digest_X8_mix : GoodIn wsX8_digest (wsV RX8 260 RX8 yX8_mix wsX8_mix) := goodIn_app (goodIn_of _ (by decide +kernel)) ggX8_digest_X8_mix
set_option maxRecDepth 20000 in
theorem ggX8_digest_X8_ofRegister : GoodIn wsX8_digest wsX8_ofRegister := goodIn_r _ [32, 33, 34, 35, 8, 36, 4, 37, 38, 39, 40, 41, 42, 43, 44, 82, 83, 84, 85, 86, 87, 88, 89, 90, 91, 92, 93, 94, 95, 96, 97, 98, 99, 100] (by decide +kernel) (by decide +kernel)
set_option maxRecDepth 20000 in
theorem gX8_digest_X8_ofRegister : GoodIn wsX8_digest (wsV RX8 177 RX8 yX8_ofRegister wsX8_ofRegister) := goodIn_app (goodIn_of _ (by decide +kernel)) ggX8_digest_X8_ofRegister
set_option maxRecDepth 20000 in
theorem ggX8_digest_X8_ofPiece : GoodIn wsX8_digest wsX8_ofPiece := goodIn_r _ [48, 4, 49, 50, 51, 8, 52, 53, 54, 55, 56, 21, 22, 23, 57, 58, 59, 60, 61, 62, 63, 64, 65, 66, 67, 68, 69, 70, 71, 72, 73, 82, 83, 84, 85, 86, 87, 88, 89, 90, 91, 92, 93, 94, 95, 96, 97, 98, 99, 100] (by decide +kernel) (by decide +kernel)
set_option maxRecDepth 20000 in
theorem gX8_digest_X8_ofPiece : GoodIn wsX8_digest (wsV RX8 190 RX8 yX8_ofPiece wsX8_ofPiece) := goodIn_app (goodIn_of _ (by decide +kernel)) ggX8_digest_X8_ofPiece
set_option maxRecDepth 20000 in
theorem ggX8_digest_X8_sizeOf : GoodIn wsX8_digest wsX8_sizeOf := goodIn_r _ [56, 4, 21, 22, 8, 23, 82, 83, 84, 85, 86, 87, 88, 89, 90, 91, 92, 93, 94, 95, 96, 97, 98, 99, 100] (by decide +kernel) (by decide +kernel)
set_option maxRecDepth 20000 in
theorem gX8_digest_X8_sizeOf : GoodIn wsX8_digest (wsV RX8 68 RX8 yX8_sizeOf wsX8_sizeOf) := goodIn_app (goodIn_of _ (by decide +kernel)) ggX8_digest_X8_sizeOf
set_option maxRecDepth 20000 in
theorem ggX8_digest_X8_bytePlace : GoodIn wsX8_digest wsX8_bytePlace := goodIn_r _ [59, 21, 22, 8, 23] (by decide +kernel) (by decide +kernel)
set_option maxRecDepth 20000 in
theorem gX8_digest_X8_bytePlace : GoodIn wsX8_digest (va_wsS RX8 81 yX8_bytePlace wsX8_bytePlace) := goodIn_app (goodIn_of _ (by decide +kernel)) ggX8_digest_X8_bytePlace
set_option maxRecDepth 20000 in
theorem ggX8_digest_X8_mixImage : GoodIn wsX8_digest wsX8_mixImage := goodIn_r _ [77, 4, 78, 79, 80, 8, 81, 24, 25, 26, 27, 28, 2, 82, 83, 84, 85, 86, 87, 88, 89, 90, 91, 92, 93, 94, 95, 96, 97, 98, 99, 100] (by decide +kernel) (by decide +kernel)
set_option maxRecDepth 20000 in
theorem gX8_digest_X8_mixImage : GoodIn wsX8_digest (wsV RX8 266 RX8 yX8_mixImage wsX8_mixImage) := goodIn_app (goodIn_of _ (by decide +kernel)) ggX8_digest_X8_mixImage
