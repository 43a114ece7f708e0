set_option maxRecDepth 20000 in
theorem gX8_storesAt_X8_notToWrite : GoodIn wsX8_storesAt (wsV RX8 97 RX8 yX8_notToWrite wsX8_notToWrite) := goodIn_app (goodIn_of _ (by decide +kernel)) ggX8_storesAt_X8_notToWrite
set_option maxRecDepth 20000 in
theorem ggX8_storesAt_X8_kindOf : GoodIn wsX8_storesAt wsX8_kindOf := goodIn_r _ [20, 1, 58, 59, 60, 61, 62, 63, 64, 65, 66, 67, 68, 69, 70, 71, 72, 73, 74, 75, 76] (by decide +kernel) (by decide +kernel)
set_option maxRecDepth 20000 in
theorem gX8_storesAt_X8_kindOf : GoodIn wsX8_storesAt (wsV RX8 55 RX8 yX8_kindOf wsX8_kindOf) := goodIn_app (goodIn_of _ (by decide +kernel)) ggX8_storesAt_X8_kindOf
set_option maxRecDepth 20000 in
theorem ggX8_storesAt_X8_undefinedAs : GoodIn wsX8_storesAt wsX8_undefinedAs := goodIn_r _ [50] (by decide +kernel) (by decide +kernel)
set_option maxRecDepth 20000 in
theorem gX8_storesAt_X8_undefinedAs : GoodIn wsX8_storesAt (va_wsS RX8 92 yX8_undefinedAs wsX8_undefinedAs) := goodIn_app (goodIn_of _ (by decide +kernel)) ggX8_storesAt_X8_undefinedAs
set_option maxRecDepth 20000 in
theorem ggX8_storesAt_X8_valueOf : GoodIn wsX8_storesAt wsX8_valueOf := goodIn_r _ [24, 1, 58, 59, 60, 61, 62, 63, 64, 65, 66, 67, 68, 69, 70, 71, 72, 73, 74, 75, 76] (by decide +kernel) (by decide +kernel)
set_option maxRecDepth 20000 in
theorem gX8_storesAt_X8_valueOf : GoodIn wsX8_storesAt (wsV RX8 58 RX8 yX8_valueOf wsX8_valueOf) := goodIn_app (goodIn_of _ (by decide +kernel)) ggX8_storesAt_X8_valueOf
set_option maxRecDepth 20000 in
theorem ggX8_storesAt_X8_placeOf : GoodIn wsX8_storesAt wsX8_placeOf := goodIn_r _ [43, 1, 58, 59, 60, 61, 62, 63, 64, 65, 66, 67, 68, 69, 70, 71, 72, 73, 74, 75, 76] (by decide +kernel) (by decide +kernel)
set_option maxRecDepth 20000 in
theorem gX8_storesAt_X8_placeOf : GoodIn wsX8_storesAt (wsV RX8 65 RX8 yX8_placeOf wsX8_placeOf) := goodIn_app (goodIn_of _ (by decide +kernel)) ggX8_storesAt_X8_placeOf
set_option maxRecDepth 20000 in
theorem ggX8_storesAt_X8_cuts : GoodIn wsX8_storesAt wsX8_cuts := goodIn_r _ [54, 1, 55, 56, 4, 57, 29, 30, 31, 58, 59, 60, 61, 62, 63, 64, 65, 66, 67, 68, 69, 70, 71, 72, 73, 74, 75, 76] (by decide +kernel) (by decide +kernel)
set_option maxRecDepth 20000 in
theorem gX8_storesAt_X8_cuts : GoodIn wsX8_storesAt (wsV RX8 100 RX8 yX8_cuts wsX8_cuts) := goodIn_app (goodIn_of _ (by decide +kernel)) ggX8_storesAt_X8_cuts
set_option maxRecDepth 20000 in
theorem ggX8_storesAt_X8_bytePlace : GoodIn wsX8_storesAt wsX8_bytePlace := goodIn_r _ [57, 29, 30, 4, 31] (by decide +kernel) (by decide +kernel)
set_option maxRecDepth 20000 in
theorem gX8_storesAt_X8_bytePlace : GoodIn wsX8_storesAt (va_wsS RX8 81 yX8_bytePlace wsX8_bytePlace) := goodIn_app (goodIn_of _ (by decide +kernel)) ggX8_storesAt_X8_bytePlace
set_option maxRecDepth 20000 in
theorem ggX8_loadsFrom_X8_isRegister : GoodIn wsX8_loadsFrom wsX8_isRegister := goodIn_r _ [5, 6, 7, 4, 8] (by decide +kernel) (by decide +kernel)
set_option maxRecDepth 20000 in
theorem gX8_loadsFrom_X8_isRegister : GoodIn wsX8_loadsFrom (va_wsS RX8 85 yX8_isRegister wsX8_isRegister) := goodIn_app (goodIn_of _ (by decide +kernel)) ggX8_loadsFrom_X8_isRegister
set_option maxRecDepth 20000 in
theorem ggX8_loadsFrom_X8_in : GoodIn wsX8_loadsFrom wsX8_in := goodIn_r _ [8] (by decide +kernel) (by decide +kernel)
set_option maxRecDepth 20000 in
theorem gX8_loadsFrom_X8_in : GoodIn wsX8_loadsFrom (va_wsS RX8 51 yX8_in wsX8_in) := goodIn_app (goodIn_of _ (by decide +kernel)) ggX8_loadsFrom_X8_in
set_option maxRecDepth 20000 in
theorem ggX8_loadsFrom_X8_notGoodFor : GoodIn wsX8_loadsFrom wsX8_notGoodFor := goodIn_r _ [12, 13, 14, 15, 4, 16, 17, 18, 19, 20, 1, 21, 22, 23, 24, 25, 26, 27, 28, 29, 30, 31, 32, 33, 34, 35, 36, 37, 38, 39, 40, 41, 42, 43, 54, 55, 56, 57, 58, 59, 60, 61, 62, 63, 64, 65, 66, 67, 68, 69, 70, 71, 72] (by decide +kernel) (by decide +kernel)
set_option maxRecDepth 20000 in
theorem gX8_loadsFrom_X8_notGoodFor : GoodIn wsX8_loadsFrom (wsV RX8 104 RX8 yX8_notGoodFor wsX8_notGoodFor) := goodIn_app (goodIn_of _ (by decide +kernel)) ggX8_loadsFrom_X8_notGoodFor
set_option maxRecDepth 20000 in
theorem ggX8_loadsFrom_X8_undefinedAs : GoodIn wsX8_loadsFrom wsX8_undefinedAs := goodIn_r _ [46] (by decide +kernel) (by decide +kernel)
set_option maxRecDepth 20000 in
theorem gX8_loadsFrom_X8_undefinedAs : GoodIn wsX8_loadsFrom (va_wsS RX8 92 yX8_undefinedAs wsX8_undefinedAs) := goodIn_app (goodIn_of _ (by decide +kernel)) ggX8_loadsFrom_X8_undefinedAs
set_option maxRecDepth 20000 in
theorem ggX8_loadsFrom_X8_valueOf : GoodIn wsX8_loadsFrom wsX8_valueOf := goodIn_r _ [24, 1, 54, 55, 56, 57, 58, 59, 60, 61, 62, 63, 64, 65, 66, 67, 68, 69, 70, 71, 72] (by decide +kernel) (by decide +kernel)
set_option maxRecDepth 20000 in
theorem gX8_loadsFrom_X8_valueOf : GoodIn wsX8_loadsFrom (wsV RX8 58 RX8 yX8_valueOf wsX8_valueOf) := goodIn_app (goodIn_of _ (by decide +kernel)) ggX8_loadsFrom_X8_valueOf
set_option maxRecDepth 20000 in
theorem ggX8_loadsFrom_X8_placeOf : GoodIn wsX8_loadsFrom wsX8_placeOf := goodIn_r _ [39, 1, 54, 55, 56, 57, 58, 59, 60, 61, 62, 63, 64, 65, 66, 67, 68, 69, 70, 71, 72] (by decide +kernel) (by decide +kernel)
set_option maxRecDepth 20000 in
theorem gX8_loadsFrom_X8_placeOf : GoodIn wsX8_loadsFrom (wsV RX8 65 RX8 yX8_placeOf wsX8_placeOf) := goodIn_app (goodIn_of _ (by decide +kernel)) ggX8_loadsFrom_X8_placeOf
set_option maxRecDepth 20000 in
theorem ggX8_loadsFrom_X8_bytePlace : GoodIn wsX8_loadsFrom wsX8_bytePlace := goodIn_r _ [49, 29, 30, 4, 31] (by decide +kernel) (by decide +kernel)
set_option maxRecDepth 20000 in
theorem gX8_loadsFrom_X8_bytePlace : GoodIn wsX8_loadsFrom (va_wsS RX8 81 yX8_bytePlace wsX8_bytePlace) := goodIn_app (goodIn_of _ (by decide +kernel)) ggX8_loadsFrom_X8_bytePlace
set_option maxRecDepth 20000 in
theorem ggX8_loadsFrom_X8_tells : GoodIn wsX8_loadsFrom wsX8_tells := goodIn_r _ [53, 1, 54, 55, 56, 57, 58, 59, 60, 61, 62, 63, 64, 65, 66, 67, 68, 69, 70, 71, 72] (by decide +kernel) (by decide +kernel)
set_option maxRecDepth 20000 in
theorem gX8_loadsFrom_X8_tells : GoodIn wsX8_loadsFrom (wsV RX8 88 RX8 yX8_tells wsX8_tells) := goodIn_app (goodIn_of _ (by decide +kernel)) ggX8_loadsFrom_X8_tells
set_option maxRecDepth 20000 in
theorem ggX8_comparesTo_X8_isRegister : GoodIn wsX8_comparesTo wsX8_isRegister := goodIn_r _ [4, 5, 6, 3, 7] (by decide +kernel) (by decide +kernel)
set_option maxRecDepth 20000 in
theorem gX8_comparesTo_X8_isRegister : GoodIn wsX8_comparesTo (va_wsS RX8 85 yX8_isRegister wsX8_isRegister) := goodIn_app (goodIn_of _ (by decide +kernel)) ggX8_comparesTo_X8_isRegister
set_option maxRecDepth 20000 in
theorem ggX8_comparesTo_X8_kindOf : GoodIn wsX8_comparesTo wsX8_kindOf := goodIn_r _ [11, 12, 24, 25, 26, 27, 28, 29, 30, 31, 32, 33, 34, 35, 36, 37, 38, 39, 40, 41, 42] (by decide +kernel) (by decide +kernel)
set_option maxRecDepth 20000 in
theorem gX8_comparesTo_X8_kindOf : GoodIn wsX8_comparesTo (wsV RX8 55 RX8 yX8_kindOf wsX8_kindOf) := goodIn_app (goodIn_of _ (by decide +kernel)) ggX8_comparesTo_X8_kindOf
set_option maxRecDepth 20000 in
theorem ggX8_comparesTo_X8_undefinedAs : GoodIn wsX8_comparesTo wsX8_undefinedAs := goodIn_r _ [15] (by decide +kernel) (by decide +kernel)
set_option maxRecDepth 20000 in
theorem gX8_comparesTo_X8_undefinedAs : GoodIn wsX8_comparesTo (va_wsS RX8 92 yX8_undefinedAs wsX8_undefinedAs) := goodIn_app (goodIn_of _ (by decide +kernel)) ggX8_comparesTo_X8_undefinedAs
set_option maxRecDepth 20000 in
theorem ggX8_comparesTo_X8_valueOf : GoodIn wsX8_comparesTo wsX8_valueOf := goodIn_r _ [19, 12, 24, 25, 26, 27, 28, 29, 30, 31, 32, 33, 34, 35, 36, 37, 38, 39, 40, 41, 42] (by decide +kernel) (by decide +kernel)
set_option maxRecDepth 20000 in
theorem gX8_comparesTo_X8_valueOf : GoodIn wsX8_comparesTo (wsV RX8 58 RX8 yX8_valueOf wsX8_valueOf) := goodIn_app (goodIn_of _ (by decide +kernel)) ggX8_comparesTo_X8_valueOf
set_option maxRecDepth 20000 in
theorem ggX8_comparesTo_X8_placeOf : GoodIn wsX8_comparesTo wsX8_placeOf := goodIn_r _ [23, 12, 24, 25, 26, 27, 28, 29, 30, 31, 32, 33, 34, 35, 36, 37, 38, 39, 40, 41, 42] (by decide +kernel) (by decide +kernel)
set_option maxRecDepth 20000 in
theorem gX8_comparesTo_X8_placeOf : GoodIn wsX8_comparesTo (wsV RX8 65 RX8 yX8_placeOf wsX8_placeOf) := goodIn_app (goodIn_of _ (by decide +kernel)) ggX8_comparesTo_X8_placeOf
set_option maxRecDepth 20000 in
theorem ggX8_blits_X8_isRegister : GoodIn wsX8_blits wsX8_isRegister := goodIn_r _ [6, 7, 8, 5, 9] (by decide +kernel) (by decide +kernel)
set_option maxRecDepth 20000 in
theorem gX8_blits_X8_isRegister : GoodIn wsX8_blits (va_wsS RX8 85 yX8_isRegister wsX8_isRegister) := goodIn_app (goodIn_of _ (by decide +kernel)) ggX8_blits_X8_isRegister
set_option maxRecDepth 20000 in
theorem ggX8_blits_X8_in : GoodIn wsX8_blits wsX8_in := goodIn_r _ [9] (by decide +kernel) (by decide +kernel)
set_option maxRecDepth 20000 in
theorem gX8_blits_X8_in : GoodIn wsX8_blits (va_wsS RX8 51 yX8_in wsX8_in) := goodIn_app (goodIn_of _ (by decide +kernel)) ggX8_blits_X8_in
set_option maxRecDepth 20000 in
theorem ggX8_blits_X8_notToWrite : GoodIn wsX8_blits wsX8_notToWrite := goodIn_r _ [13, 14, 15, 16, 5, 17, 18, 19, 20, 21, 2, 22, 23, 24, 25, 26, 27, 28, 29, 30, 31, 32, 33, 34, 35, 36, 37, 38, 39, 40, 41, 42, 43, 44, 45, 46, 47, 48, 63, 64, 65, 66, 67, 68, 69, 70, 71, 72, 73, 74, 75, 76, 77, 78, 79, 80, 81] (by decide +kernel) (by decide +kernel)
set_option maxRecDepth 20000 in
theorem gX8_blits_X8_notToWrite : GoodIn wsX8_blits (wsV RX8 97 RX8 yX8_notToWrite wsX8_notToWrite) := goodIn_app (goodIn_of _ (by decide +kernel)) ggX8_blits_X8_notToWrite
set_option maxRecDepth 20000 in
theorem ggX8_blits_X8_notGoodFor : GoodIn wsX8_blits wsX8_notGoodFor := goodIn_r _ [52, 14, 15, 16, 5, 17, 18, 19, 20, 21, 2, 22, 23, 24, 25, 26, 27, 28, 29, 30, 31, 32, 37, 38, 39, 40, 41, 42, 43, 44, 45, 46, 47, 48, 63, 64, 65, 66, 67, 68, 69, 70, 71, 72, 73, 74, 75, 76, 77, 78, 79, 80, 81] (by decide +kernel) (by decide +kernel)
set_option maxRecDepth 20000 in
theorem gX8_blits_X8_notGoodFor : GoodIn wsX8_blits (wsV RX8 104 RX8 yX8_notGoodFor wsX8_notGoodFor) := goodIn_app (goodIn_of _ (by decide +kernel)) ggX8_blits_X8_notGoodFor
set_option maxRecDepth 20000 in
theorem ggX8_blits_X8_undefinedAs : GoodIn wsX8_blits wsX8_undefinedAs := goodIn_r _ [55] (by decide +kernel) (by decide +kernel)
set_option maxRecDepth 20000 in
theorem gX8_blits_X8_undefinedAs : GoodIn wsX8_blits (va_wsS RX8 92 yX8_undefinedAs wsX8_undefinedAs) := goodIn_app (goodIn_of _ (by decide +kernel)) ggX8_blits_X8_undefinedAs
set_option maxRecDepth 20000 in
theorem ggX8_blits_X8_valueOf : GoodIn wsX8_blits wsX8_valueOf := goodIn_r _ [25, 2, 63, 64, 65, 66, 67, 68, 69, 70, 71, 72, 73, 74, 75, 76, 77, 78, 79, 80, 81] (by decide +kernel) (by decide +kernel)
set_option maxRecDepth 20000 in
theorem gX8_blits_X8_valueOf : GoodIn wsX8_blits (wsV RX8 58 RX8 yX8_valueOf wsX8_valueOf) := goodIn_app (goodIn_of _ (by decide +kernel)) ggX8_blits_X8_valueOf
set_option maxRecDepth 20000 in
theorem ggX8_blits_X8_placeOf : GoodIn wsX8_blits wsX8_placeOf := goodIn_r _ [44, 2, 63, 64, 65, 66, 67, 68, 69, 70, 71, 72, 73, 74, 75, 76, 77, 78, 79, 80, 81] (by decide +kernel) (by decide +kernel)
set_option maxRecDepth 20000 in
theorem gX8_blits_X8_placeOf : GoodIn wsX8_blits (wsV RX8 65 RX8 yX8_placeOf wsX8_placeOf) := goodIn_app (goodIn_of _ (by decide +kernel)) ggX8_blits_X8_placeOf
set_option maxRecDepth 20000 in
theorem ggX8_blits_X8_bytePlace : GoodIn wsX8_blits wsX8_bytePlace := goodIn_r _ [58, 30, 31, 5, 32] (by decide +kernel) (by decide +kernel)
set_option maxRecDepth 20000 in
theorem gX8_blits_X8_bytePlace : GoodIn wsX8_blits (va_wsS RX8 81 yX8_bytePlace wsX8_bytePlace) := goodIn_app (goodIn_of _ (by decide +kernel)) ggX8_blits_X8_bytePlace
set_option maxRecDepth 20000 in
theorem ggX8_blits_X8_cuts : GoodIn wsX8_blits wsX8_cuts := goodIn_r _ [62, 2, 56, 57, 5, 58, 30, 31, 32, 63, 64, 65, 66, 67, 68, 69, 70, 71, 72, 73, 74, 75, 76, 77, 78, 79, 80, 81] (by decide +kernel) (by decide +kernel)
set_option maxRecDepth 20000 in
theorem gX8_blits_X8_cuts : GoodIn wsX8_blits (wsV RX8 100 RX8 yX8_cuts wsX8_cuts) := goodIn_app (goodIn_of _ (by decide +kernel)) ggX8_blits_X8_cuts
set_option maxRecDepth 20000 in
theorem ggX8_reaches_X8_sizeOf : GoodIn wsX8_reaches wsX8_sizeOf := goodIn_r _ [8, 3, 9, 10, 7, 11, 19, 20, 21, 22, 23, 24, 25, 26, 27, 28, 29, 30, 31, 32, 33, 34, 35, 36, 37] (by decide +kernel) (by decide +kernel)
set_option maxRecDepth 20000 in
theorem gX8_reaches_X8_sizeOf : GoodIn wsX8_reaches (wsV RX8 68 RX8 yX8_sizeOf wsX8_sizeOf) := goodIn_app (goodIn_of _ (by decide +kernel)) ggX8_reaches_X8_sizeOf
set_option maxRecDepth 20000 in
theorem ggX8_reaches_X8_bytePlace : GoodIn wsX8_reaches wsX8_bytePlace := goodIn_r _ [14, 9, 10, 7, 11] (by decide +kernel) (by decide +kernel)
set_option maxRecDepth 20000 in
theorem gX8_reaches_X8_bytePlace : GoodIn wsX8_reaches (va_wsS RX8 81 yX8_bytePlace wsX8_bytePlace) := goodIn_app (goodIn_of _ (by decide +kernel)) ggX8_reaches_X8_bytePlace
set_option maxRecDepth 20000 in
theorem ggX8_reaches_X8_nodeOf : GoodIn wsX8_reaches wsX8_nodeOf := goodIn_r _ [18, 2, 1, 19, 20, 21, 22, 23, 24, 25, 26, 27, 28, 29, 30, 31, 32, 33, 34, 35, 36, 37] (by decide +kernel) (by decide +kernel)
set_option maxRecDepth 20000 in
theorem gX8_reaches_X8_nodeOf : GoodIn wsX8_reaches (wsV RX8 110 RX8 yX8_nodeOf wsX8_nodeOf) := goodIn_app (goodIn_of _ (by decide +kernel)) ggX8_reaches_X8_nodeOf
set_option maxRecDepth 20000 in
theorem ggX8_allLive_X8_isLive : GoodIn wsX8_allLive wsX8_isLive := goodIn_r _ [7, 8, 9, 10, 6, 11, 12, 13, 14, 15, 16, 17, 18, 19, 20, 21, 22, 23, 24, 25, 26, 27, 28, 29, 30] (by decide +kernel) (by decide +kernel)
set_option maxRecDepth 20000 in
theorem gX8_allLive_X8_isLive : GoodIn wsX8_allLive (wsV RX8 61 RX8 yX8_isLive wsX8_isLive) := goodIn_app (goodIn_of _ (by decide +kernel)) ggX8_allLive_X8_isLive
set_option maxRecDepth 20000 in
theorem ggX8_laysImage_X8_sizeOf : GoodIn wsX8_laysImage wsX8_sizeOf := goodIn_r _ [9, 4, 10, 11, 8, 12, 20, 21, 22, 23, 24, 25, 26, 27, 28, 29, 30, 31, 32, 33, 34, 35, 36, 37, 38] (by decide +kernel) (by decide +kernel)
set_option maxRecDepth 20000 in
theorem gX8_laysImage_X8_sizeOf : GoodIn wsX8_laysImage (wsV RX8 68 RX8 yX8_sizeOf wsX8_sizeOf) := goodIn_app (goodIn_of _ (by decide +kernel)) ggX8_laysImage_X8_sizeOf
set_option maxRecDepth 20000 in
theorem ggX8_laysImage_X8_bytePlace : GoodIn wsX8_laysImage wsX8_bytePlace := goodIn_r _ [15, 10, 11, 8, 12] (by decide +kernel) (by decide +kernel)
set_option maxRecDepth 20000 in
theorem gX8_laysImage_X8_bytePlace : GoodIn wsX8_laysImage (va_wsS RX8 81 yX8_bytePlace wsX8_bytePlace) := goodIn_app (goodIn_of _ (by decide +kernel)) ggX8_laysImage_X8_bytePlace
set_option maxRecDepth 20000 in
theorem ggX8_laysImage_X8_nodeOf : GoodIn wsX8_laysImage wsX8_nodeOf := goodIn_r _ [19, 2, 3, 20, 21, 22, 23, 24, 25, 26, 27, 28, 29, 30, 31, 32, 33, 34, 35, 36, 37, 38] (by decide +kernel) (by decide +kernel)
set_option maxRecDepth 20000 in
theorem gX8_laysImage_X8_nodeOf : GoodIn wsX8_laysImage (wsV RX8 110 RX8 yX8_nodeOf wsX8_nodeOf) := goodIn_app (goodIn_of _ (by decide +kernel)) ggX8_laysImage_X8_nodeOf
set_option maxRecDepth 20000 in
theorem ggX8_freezes_X8_isRegister : GoodIn wsX8_freezes wsX8_isRegister := goodIn_r _ [8, 9, 10, 7, 11] (by decide +kernel) (by decide +kernel)
set_option maxRecDepth 20000 in
theorem gX8_freezes_X8_isRegister : GoodIn wsX8_freezes (va_wsS RX8 85 yX8_isRegister wsX8_isRegister) := goodIn_app (goodIn_of _ (by decide +kernel)) ggX8_freezes_X8_isRegister
set_option maxRecDepth 20000 in
theorem ggX8_freezes_X8_notGood : GoodIn wsX8_freezes wsX8_notGood := goodIn_r _ [15, 16, 17, 18, 7, 19, 1, 20, 21, 22, 23, 24, 25, 26, 27, 28, 29, 30, 65, 66, 67, 68, 69, 70, 71, 72, 73, 74, 75, 76, 77, 78, 79, 80, 81, 82, 83] (by decide +kernel) (by decide +kernel)
set_option maxRecDepth 20000 in
theorem gX8_freezes_X8_notGood : GoodIn wsX8_freezes (wsV RX8 71 RX8 yX8_notGood wsX8_notGood) := goodIn_app (goodIn_of _ (by decide +kernel)) ggX8_freezes_X8_notGood
set_option maxRecDepth 20000 in
theorem ggX8_freezes_X8_placeOf : GoodIn wsX8_freezes wsX8_placeOf := goodIn_r _ [34, 1, 65, 66, 67, 68, 69, 70, 71, 72, 73, 74, 75, 76, 77, 78, 79, 80, 81, 82, 83] (by decide +kernel) (by decide +kernel)
set_option maxRecDepth 20000 in
theorem gX8_freezes_X8_placeOf : GoodIn wsX8_freezes (wsV RX8 65 RX8 yX8_placeOf wsX8_placeOf) := goodIn_app (goodIn_of _ (by decide +kernel)) ggX8_freezes_X8_placeOf
set_option maxRecDepth 20000 in
theorem ggX8_freezes_X8_valueOf : GoodIn wsX8_freezes wsX8_valueOf := goodIn_r _ [23, 1, 65, 66, 67, 68, 69, 70, 71, 72, 73, 74, 75, 76, 77, 78, 79, 80, 81, 82, 83] (by decide +kernel) (by decide +kernel)
set_option maxRecDepth 20000 in
theorem gX8_freezes_X8_valueOf : GoodIn wsX8_freezes (wsV RX8 58 RX8 yX8_valueOf wsX8_valueOf) := goodIn_app (goodIn_of _ (by decide +kernel)) ggX8_freezes_X8_valueOf
set_option maxRecDepth 20000 in
theorem ggX8_freezes_X8_reaches : GoodIn wsX8_freezes wsX8_reaches := goodIn_r _ [38, 4, 3, 1, 39, 40, 41, 7, 42, 28, 29, 30, 43, 44, 45, 46, 47, 48, 49, 65, 66, 67, 68, 69, 70, 71, 72, 73, 74, 75, 76, 77, 78, 79, 80, 81, 82, 83] (by decide +kernel) (by decide +kernel)
set_option maxRecDepth 20000 in
theorem gX8_freezes_X8_reaches : GoodIn wsX8_freezes (wsV RX8 113 RX8 yX8_reaches wsX8_reaches) := goodIn_app (goodIn_of _ (by decide +kernel)) ggX8_freezes_X8_reaches
set_option maxRecDepth 20000 in
theorem ggX8_freezes_X8_allLive : GoodIn wsX8_freezes wsX8_allLive := goodIn_r _ [53, 3, 4, 24, 25, 26, 7, 27, 1, 28, 29, 30, 65, 66, 67, 68, 69, 70, 71, 72, 73, 74, 75, 76, 77, 78, 79, 80, 81, 82, 83] (by decide +kernel) (by decide +kernel)
set_option maxRecDepth 20000 in
theorem gX8_freezes_X8_allLive : GoodIn wsX8_freezes (wsV RX8 117 RX8 yX8_allLive wsX8_allLive) := goodIn_app (goodIn_of _ (by decide +kernel)) ggX8_freezes_X8_allLive
set_option maxRecDepth 20000 in
theorem ggX8_freezes_X8_undefinedAs : GoodIn wsX8_freezes wsX8_undefinedAs := goodIn_r _ [56] (by decide +kernel) (by decide +kernel)
set_option maxRecDepth 20000 in
theorem gX8_freezes_X8_undefinedAs : GoodIn wsX8_freezes (va_wsS RX8 92 yX8_undefinedAs wsX8_undefinedAs) := goodIn_app (goodIn_of _ (by decide +kernel)) ggX8_freezes_X8_undefinedAs
set_option maxRecDepth 20000 in
theorem ggX8_freezes_X8_laysImage : GoodIn wsX8_freezes wsX8_laysImage := goodIn_r _ [60, 2, 3, 4, 1, 39, 40, 41, 7, 42, 28, 29, 30, 43, 44, 45, 46, 47, 48, 49, 65, 66, 67, 68, 69, 70, 71, 72, 73, 74, 75, 76, 77, 78, 79, 80, 81, 82, 83] (by decide +kernel) (by decide +kernel)
set_option maxRecDepth 20000 in
theorem gX8_freezes_X8_laysImage : GoodIn wsX8_freezes (wsV RX8 121 RX8 yX8_laysImage wsX8_laysImage) := goodIn_app (goodIn_of _ (by decide +kernel)) ggX8_freezes_X8_laysImage
set_option maxRecDepth 20000 in
theorem ggX8_freezes_X8_imageLaid : GoodIn wsX8_freezes wsX8_imageLaid := goodIn_r _ [64, 1, 2, 65, 66, 67, 68, 69, 70, 71, 72, 73, 74, 75, 76, 77, 78, 79, 80, 81, 82, 83] (by decide +kernel) (by decide +kernel)
set_option maxRecDepth 20000 in
theorem gX8_freezes_X8_imageLaid : GoodIn wsX8_freezes (wsV RX8 124 RX8 yX8_imageLaid wsX8_imageLaid) := goodIn_app (goodIn_of _ (by decide +kernel)) ggX8_freezes_X8_imageLaid
set_option maxRecDepth 20000 in
theorem ggX8_freezes_X8_piecePlace : GoodIn wsX8_freezes wsX8_piecePlace := goodIn_r _ [30] (by decide +kernel) (by decide +kernel)
set_option maxRecDepth 20000 in
theorem gX8_freezes_X8_piecePlace : GoodIn wsX8_freezes (va_wsS RX8 47 yX8_piecePlace wsX8_piecePlace) := goodIn_app (goodIn_of _ (by decide +kernel)) ggX8_freezes_X8_piecePlace
set_option maxRecDepth 20000 in
theorem ggX8_acts_X8_makes : GoodIn wsX8_acts wsX8_makes := goodIn_r _ [5, 6, 7, 8, 4, 9, 10, 11, 12, 13, 14, 15, 16, 17, 18, 19, 128, 129, 130, 131, 132, 133, 134, 135, 136, 137, 138, 139, 140, 141, 142, 143, 144, 145, 146] (by decide +kernel) (by decide +kernel)
set_option maxRecDepth 20000 in
theorem gX8_acts_X8_makes : GoodIn wsX8_acts (wsV RX8 128 RX8 yX8_makes wsX8_makes) := goodIn_app (goodIn_of _ (by decide +kernel)) ggX8_acts_X8_makes
set_option maxRecDepth 20000 in
theorem ggX8_acts_X8_ends : GoodIn wsX8_acts wsX8_ends := goodIn_r _ [23, 6, 7, 8, 4, 9, 10, 11, 12, 24, 25, 26, 27, 28, 29, 30, 31, 32, 33, 34, 35, 36, 37, 38, 39, 13, 14, 15, 40, 41, 42, 43, 44, 45, 46, 47, 48, 49, 50, 128, 129, 130, 131, 132, 133, 134, 135, 136, 137, 138, 139, 140, 141, 142, 143, 144, 145, 146] (by decide +kernel) (by decide +kernel)
set_option maxRecDepth 20000 in
theorem gX8_acts_X8_ends : GoodIn wsX8_acts (wsV RX8 131 RX8 yX8_ends wsX8_ends) := goodIn_app (goodIn_of _ (by decide +kernel)) ggX8_acts_X8_ends
set_option maxRecDepth 20000 in
theorem ggX8_acts_X8_setsTo : GoodIn wsX8_acts wsX8_setsTo := goodIn_r _ [54, 55, 7, 8, 4, 9, 10, 11, 12, 16, 17, 18, 19, 6, 128, 129, 130, 131, 132, 133, 134, 135, 136, 137, 138, 139, 140, 141, 142, 143, 144, 145, 146] (by decide +kernel) (by decide +kernel)
set_option maxRecDepth 20000 in
theorem gX8_acts_X8_setsTo : GoodIn wsX8_acts (wsV RX8 134 RX8 yX8_setsTo wsX8_setsTo) := goodIn_app (goodIn_of _ (by decide +kernel)) ggX8_acts_X8_setsTo
set_option maxRecDepth 20000 in
theorem ggX8_acts_X8_copiesTo : GoodIn wsX8_acts wsX8_copiesTo := goodIn_r _ [59, 7, 8, 4, 9, 10, 11, 12, 28, 29, 30, 31, 6, 32, 33, 34, 35, 40, 41, 42, 43, 16, 17, 18, 19, 128, 129, 130, 131, 132, 133, 134, 135, 136, 137, 138, 139, 140, 141, 142, 143, 144, 145, 146] (by decide +kernel) (by decide +kernel)
set_option maxRecDepth 20000 in
theorem gX8_acts_X8_copiesTo : GoodIn wsX8_acts (wsV RX8 137 RX8 yX8_copiesTo wsX8_copiesTo) := goodIn_app (goodIn_of _ (by decide +kernel)) ggX8_acts_X8_copiesTo
set_option maxRecDepth 20000 in
theorem ggX8_acts_X8_movesBy : GoodIn wsX8_acts wsX8_movesBy := goodIn_r _ [63, 64, 7, 8, 4, 9, 10, 11, 12, 28, 29, 30, 31, 6, 48, 49, 50, 32, 33, 34, 35, 16, 17, 18, 19, 40, 41, 42, 43, 36, 37, 38, 39, 13, 14, 15, 65, 66, 67, 68, 128, 129, 130, 131, 132, 133, 134, 135, 136, 137, 138, 139, 140, 141, 142, 143, 144, 145, 146] (by decide +kernel) (by decide +kernel)
set_option maxRecDepth 20000 in
theorem gX8_acts_X8_movesBy : GoodIn wsX8_acts (wsV RX8 140 RX8 yX8_movesBy wsX8_movesBy) := goodIn_app (goodIn_of _ (by decide +kernel)) ggX8_acts_X8_movesBy
set_option maxRecDepth 20000 in
theorem ggX8_acts_X8_storesAt : GoodIn wsX8_acts wsX8_storesAt := goodIn_r _ [72, 6, 7, 8, 4, 9, 10, 11, 12, 73, 74, 75, 76, 24, 25, 26, 27, 28, 29, 30, 31, 32, 33, 34, 35, 36, 37, 38, 39, 13, 14, 15, 44, 45, 46, 47, 77, 78, 79, 80, 40, 41, 42, 43, 65, 66, 67, 68, 48, 49, 50, 81, 82, 83, 84, 85, 86, 87, 128, 129, 130, 131, 132, 133, 134, 135, 136, 137, 138, 139, 140, 141, 142, 143, 144, 145, 146] (by decide +kernel) (by decide +kernel)
set_option maxRecDepth 20000 in
theorem gX8_acts_X8_storesAt : GoodIn wsX8_acts (wsV RX8 143 RX8 yX8_storesAt wsX8_storesAt) := goodIn_app (goodIn_of _ (by decide +kernel)) ggX8_acts_X8_storesAt
set_option maxRecDepth 20000 in
theorem ggX8_acts_X8_loadsFrom : GoodIn wsX8_acts wsX8_loadsFrom := goodIn_r _ [91, 6, 7, 8, 4, 9, 10, 11, 12, 92, 93, 94, 95, 24, 25, 26, 27, 28, 29, 30, 31, 32, 33, 34, 35, 36, 37, 38, 39, 13, 14, 15, 77, 78, 79, 80, 40, 41, 42, 43, 65, 66, 67, 68, 48, 49, 50, 85, 86, 87, 16, 17, 18, 19, 128, 129, 130, 131, 132, 133, 134, 135, 136, 137, 138, 139, 140, 141, 142, 143, 144, 145, 146] (by decide +kernel) (by decide +kernel)
set_option maxRecDepth 20000 in
theorem gX8_acts_X8_loadsFrom : GoodIn wsX8_acts (wsV RX8 147 RX8 yX8_loadsFrom wsX8_loadsFrom) := goodIn_app (goodIn_of _ (by decide +kernel)) ggX8_acts_X8_loadsFrom
set_option maxRecDepth 20000 in
theorem ggX8_acts_X8_blits : GoodIn wsX8_acts wsX8_blits := goodIn_r _ [99, 100, 6, 7, 8, 4, 9, 10, 11, 12, 73, 74, 75, 76, 24, 25, 26, 27, 28, 29, 30, 31, 32, 33, 34, 35, 36, 37, 38, 39, 13, 14, 15, 44, 45, 46, 47, 77, 78, 79, 80, 40, 41, 42, 43, 65, 66, 67, 68, 92, 93, 94, 95, 48, 49, 50, 85, 86, 87, 81, 82, 83, 84, 128, 129, 130, 131, 132, 133, 134, 135, 136, 137, 138, 139, 140, 141, 142, 143, 144, 145, 146] (by decide +kernel) (by decide +kernel)
set_option maxRecDepth 20000 in
theorem gX8_acts_X8_blits : GoodIn wsX8_acts (wsV RX8 150 RX8 yX8_blits wsX8_blits) := goodIn_app (goodIn_of _ (by decide +kernel)) ggX8_acts_X8_blits
set_option maxRecDepth 20000 in
theorem ggX8_acts_X8_freezes : GoodIn wsX8_acts wsX8_freezes := goodIn_r _ [104, 6, 105, 106, 107, 7, 8, 4, 9, 10, 11, 12, 24, 25, 26, 27, 28, 29, 30, 31, 32, 33, 34, 35, 36, 37, 38, 39, 13, 14, 15, 40, 41, 42, 43, 108, 109, 110, 111, 65, 66, 67, 68, 85, 86, 87, 112, 113, 114, 115, 116, 117, 118, 119, 48, 49, 50, 120, 121, 122, 123, 124, 125, 126, 127, 128, 129, 130, 131, 132, 133, 134, 135, 136, 137, 138, 139, 140, 141, 142, 143, 144, 145, 146] (by decide +kernel) (by decide +kernel)
set_option maxRecDepth 20000 in
theorem gX8_acts_X8_freezes : GoodIn wsX8_acts (wsV RX8 153 RX8 yX8_freezes wsX8_freezes) := goodIn_app (goodIn_of _ (by decide +kernel)) ggX8_acts_X8_freezes
set_option maxRecDepth 20000 in
theorem ggX8_calls_X8_copies : GoodIn wsX8_calls wsX8_copies := goodIn_r _ [5, 6, 7, 149, 150, 151, 152, 153, 154, 155, 156, 157, 158, 159, 160, 161, 162, 163, 164, 165, 166, 167] (by decide +kernel) (by decide +kernel)
set_option maxRecDepth 20000 in
theorem gX8_calls_X8_copies : GoodIn wsX8_calls (wsV RX8 156 RX8 yX8_copies wsX8_copies) := goodIn_app (goodIn_of _ (by decide +kernel)) ggX8_calls_X8_copies
set_option maxRecDepth 20000 in
theorem ggX8_calls_X8_acts : GoodIn wsX8_calls wsX8_acts := goodIn_r _ [11, 12, 13, 14, 4, 15, 7, 16, 17, 18, 19, 20, 21, 22, 23, 24, 25, 26, 27, 28, 29, 30, 31, 32, 33, 34, 35, 36, 37, 38, 39, 40, 41, 42, 43, 44, 45, 46, 47, 48, 49, 50, 51, 52, 53, 54, 55, 56, 57, 58, 59, 60, 61, 62, 63, 64, 65, 66, 67, 68, 69, 70, 71, 72, 73, 74, 75, 76, 77, 78, 79, 80, 81, 82, 83, 84, 85, 86, 87, 88, 89, 90, 91, 92, 93, 94, 95, 96, 97, 98, 99, 100, 101, 102, 103, 104, 105, 106, 107, 108, 109, 110, 111, 112, 113, 114, 115, 116, 117, 118, 119, 120, 121, 122, 123, 124, 125, 126, 127, 128, 129, 130, 131, 132, 133, 134, 135, 136, 149, 150, 151, 152, 153, 154, 155, 156, 157, 158, 159, 160, 161, 162, 163, 164, 165, 166, 167] (by decide +kernel) (by decide +kernel)
set_option maxRecDepth 20000 in
theorem gX8_calls_X8_acts : GoodIn wsX8_calls (wsV RX8 159 RX8 yX8_acts wsX8_acts) := goodIn_app (goodIn_of _ (by decide +kernel)) ggX8_calls_X8_acts
set_option maxRecDepth 20000 in
theorem ggX8_calls_X8_remembers : GoodIn wsX8_calls wsX8_remembers := goodIn_r _ [140, 141, 142, 6, 149, 150, 151, 152, 153, 154, 155, 156, 157, 158, 159, 160, 161, 162, 163, 164, 165, 166, 167] (by decide +kernel) (by decide +kernel)
set_option maxRecDepth 20000 in
theorem gX8_calls_X8_remembers : GoodIn wsX8_calls (wsV RX8 162 RX8 yX8_remembers wsX8_remembers) := goodIn_app (goodIn_of _ (by decide +kernel)) ggX8_calls_X8_remembers
set_option maxRecDepth 20000 in
theorem ggX8_calls_X8_counted : GoodIn wsX8_calls wsX8_counted := goodIn_r _ [146, 147, 148, 149, 150, 151, 152, 153, 154, 155, 156, 157, 158, 159, 160, 161, 162, 163, 164, 165, 166, 167] (by decide +kernel) (by decide +kernel)
set_option maxRecDepth 20000 in
theorem gX8_calls_X8_counted : GoodIn wsX8_calls (wsV RX8 165 RX8 yX8_counted wsX8_counted) := goodIn_app (goodIn_of _ (by decide +kernel)) ggX8_calls_X8_counted
set_option maxRecDepth 20000 in
theorem ggX8_make_X8_calls : GoodIn wsX8_make wsX8_calls := goodIn_r _ [5, 6, 7, 8, 4, 9, 10, 11, 12, 13, 14, 15, 16, 17, 18, 19, 20, 21, 22, 23, 24, 25, 26, 27, 28, 29, 30, 31, 32, 33, 34, 35, 36, 37, 38, 39, 40, 41, 42, 43, 44, 45, 46, 47, 48, 49, 50, 51, 52, 53, 54, 55, 56, 57, 58, 59, 60, 61, 62, 63, 64, 65, 66, 67, 68, 69, 70, 71, 72, 73, 74, 75, 76, 77, 78, 79, 80, 81, 82, 83, 84, 85, 86, 87, 88, 89, 90, 91, 92, 93, 94, 95, 96, 97, 98, 99, 100, 101, 102, 103, 104, 105, 106, 107, 108, 109, 110, 111, 112, 113, 114, 115, 116, 117, 118, 119, 120, 121, 122, 123, 124, 125, 126, 127, 128, 129, 130, 131, 132, 133, 134, 135, 136, 137, 138, 139, 140, 141, 142, 143, 144, 145, 146, 147, 148, 149, 150, 151, 152, 153, 154, 155, 156, 157, 158, 159, 160, 161, 162, 163, 164, 165, 166, 167, 168, 169, 170, 171] (by decide +kernel) (by decide +kernel)
set_option maxRecDepth 20000 in
theorem gX8_make_X8_calls : GoodIn wsX8_make (wsV RX8 168 RX8 yX8_calls wsX8_calls) := goodIn_app (goodIn_of _ (by decide +kernel)) ggX8_make_X8_calls
set_option maxRecDepth 20000 in
theorem ggX8_end_X8_calls : GoodIn wsX8_end wsX8_calls := goodIn_r _ [5, 6, 7, 8, 4, 9, 10, 11, 12, 13, 14, 15, 16, 17, 18, 19, 20, 21, 22, 23, 24, 25, 26, 27, 28, 29, 30, 31, 32, 33, 34, 35, 36, 37, 38, 39, 40, 41, 42, 43, 44, 45, 46, 47, 48, 49, 50, 51, 52, 53, 54, 55, 56, 57, 58, 59, 60, 61, 62, 63, 64, 65, 66, 67, 68, 69, 70, 71, 72, 73, 74, 75, 76, 77, 78, 79, 80, 81, 82, 83, 84, 85, 86, 87, 88, 89, 90, 91, 92, 93, 94, 95, 96, 97, 98, 99, 100, 101, 102, 103, 104, 105, 106, 107, 108, 109, 110, 111, 112, 113, 114, 115, 116, 117, 118, 119, 120, 121, 122, 123, 124, 125, 126, 127, 128, 129, 130, 131, 132, 133, 134, 135, 136, 137, 138, 139, 140, 141, 142, 143, 144, 145, 146, 147, 148, 149, 150, 151, 152, 153, 154, 155, 156, 157, 158, 159, 160, 161, 162, 163, 164, 165, 166, 167, 168, 169, 170, 171] (by decide +kernel) (by decide +kernel)
set_option maxRecDepth 20000 in
theorem gX8_end_X8_calls : GoodIn wsX8_end (wsV RX8 168 RX8 yX8_calls wsX8_calls) := goodIn_app (goodIn_of _ (by decide +kernel)) ggX8_end_X8_calls
set_option maxRecDepth 20000 in
theorem ggX8_set_X8_calls : GoodIn wsX8_set wsX8_calls := goodIn_r _ [5, 6, 7, 8, 4, 9, 10, 11, 12, 13, 14, 15, 16, 17, 18, 19, 20, 21, 22, 23, 24, 25, 26, 27, 28, 29, 30, 31, 32, 33, 34, 35, 36, 37, 38, 39, 40, 41, 42, 43, 44, 45, 46, 47, 48, 49, 50, 51, 52, 53, 54, 55, 56, 57, 58, 59, 60, 61, 62, 63, 64, 65, 66, 67, 68, 69, 70, 71, 72, 73, 74, 75, 76, 77, 78, 79, 80, 81, 82, 83, 84, 85, 86, 87, 88, 89, 90, 91, 92, 93, 94, 95, 96, 97, 98, 99, 100, 101, 102, 103, 104, 105, 106, 107, 108, 109, 110, 111, 112, 113, 114, 115, 116, 117, 118, 119, 120, 121, 122, 123, 124, 125, 126, 127, 128, 129, 130, 131, 132, 133, 134, 135, 136, 137, 138, 139, 140, 141, 142, 143, 144, 145, 146, 147, 148, 149, 150, 151, 152, 153, 154, 155, 156, 157, 158, 159, 160, 161, 162, 163, 164, 165, 166, 167, 168, 169, 170, 171] (by decide +kernel) (by decide +kernel)
set_option maxRecDepth 20000 in
theorem gX8_set_X8_calls : GoodIn wsX8_set (wsV RX8 168 RX8 yX8_calls wsX8_calls) := goodIn_app (goodIn_of _ (by decide +kernel)) ggX8_set_X8_calls
set_option maxRecDepth 20000 in
theorem ggX8_copy_X8_calls : GoodIn wsX8_copy wsX8_calls := goodIn_r _ [5, 6, 7, 8, 4, 9, 10, 11, 12, 13, 14, 15, 16, 17, 18, 19, 20, 21, 22, 23, 24, 25, 26, 27, 28, 29, 30, 31, 32, 33, 34, 35, 36, 37, 38, 39, 40, 41, 42, 43, 44, 45, 46, 47, 48, 49, 50, 51, 52, 53, 54, 55, 56, 57, 58, 59, 60, 61, 62, 63, 64, 65, 66, 67, 68, 69, 70, 71, 72, 73, 74, 75, 76, 77, 78, 79, 80, 81, 82, 83, 84, 85, 86, 87, 88, 89, 90, 91, 92, 93, 94, 95, 96, 97, 98, 99, 100, 101, 102, 103, 104, 105, 106, 107, 108, 109, 110, 111, 112, 113, 114, 115, 116, 117, 118, 119, 120, 121, 122, 123, 124, 125, 126, 127, 128, 129, 130, 131, 132, 133, 134, 135, 136, 137, 138, 139, 140, 141, 142, 143, 144, 145, 146, 147, 148, 149, 150, 151, 152, 153, 154, 155, 156, 157, 158, 159, 160, 161, 162, 163, 164, 165, 166, 167, 168, 169, 170, 171] (by decide +kernel) (by decide +kernel)
set_option maxRecDepth 20000 in
theorem gX8_copy_X8_calls : GoodIn wsX8_copy (wsV RX8 168 RX8 yX8_calls wsX8_calls) := goodIn_app (goodIn_of _ (by decide +kernel)) ggX8_copy_X8_calls
set_option maxRecDepth 20000 in
theorem ggX8_move_X8_calls : GoodIn wsX8_move wsX8_calls := goodIn_r _ [5, 6, 7, 8, 4, 9, 10, 11, 12, 13, 14, 15, 16, 17, 18, 19, 20, 21, 22, 23, 24, 25, 26, 27, 28, 29, 30, 31, 32, 33, 34, 35, 36, 37, 38, 39, 40, 41, 42, 43, 44, 45, 46, 47, 48, 49, 50, 51, 52, 53, 54, 55, 56, 57, 58, 59, 60, 61, 62, 63, 64, 65, 66, 67, 68, 69, 70, 71, 72, 73, 74, 75, 76, 77, 78, 79, 80, 81, 82, 83, 84, 85, 86, 87, 88, 89, 90, 91, 92, 93, 94, 95, 96, 97, 98, 99, 100, 101, 102, 103, 104, 105, 106, 107, 108, 109, 110, 111, 112, 113, 114, 115, 116, 117, 118, 119, 120, 121, 122, 123, 124, 125, 126, 127, 128, 129, 130, 131, 132, 133, 134, 135, 136, 137, 138, 139, 140, 141, 142, 143, 144, 145, 146, 147, 148, 149, 150, 151, 152, 153, 154, 155, 156, 157, 158, 159, 160, 161, 162, 163, 164, 165, 166, 167, 168, 169, 170, 171] (by decide +kernel) (by decide +kernel)
set_option maxRecDepth 20000 in
theorem gX8_move_X8_calls : GoodIn wsX8_move (wsV RX8 168 RX8 yX8_calls wsX8_calls) := goodIn_app (goodIn_of _ (by decide +kernel)) ggX8_move_X8_calls
set_option maxRecDepth 20000 in
theorem ggX8_store_X8_calls : GoodIn wsX8_store wsX8_calls := goodIn_r _ [5, 6, 7, 8, 4, 9, 10, 11, 12, 13, 14, 15, 16, 17, 18, 19, 20, 21, 22, 23, 24, 25, 26, 27, 28, 29, 30, 31, 32, 33, 34, 35, 36, 37, 38, 39, 40, 41, 42, 43, 44, 45, 46, 47, 48, 49, 50, 51, 52, 53, 54, 55, 56, 57, 58, 59, 60, 61, 62, 63, 64, 65, 66, 67, 68, 69, 70, 71, 72, 73, 74, 75, 76, 77, 78, 79, 80, 81, 82, 83, 84, 85, 86, 87, 88, 89, 90, 91, 92, 93, 94, 95, 96, 97, 98, 99, 100, 101, 102, 103, 104, 105, 106, 107, 108, 109, 110, 111, 112, 113, 114, 115, 116, 117, 118, 119, 120, 121, 122, 123, 124, 125, 126, 127, 128, 129, 130, 131, 132, 133, 134, 135, 136, 137, 138, 139, 140, 141, 142, 143, 144, 145, 146, 147, 148, 149, 150, 151, 152, 153, 154, 155, 156, 157, 158, 159, 160, 161, 162, 163, 164, 165, 166, 167, 168, 169, 170, 171] (by decide +kernel) (by decide +kernel)
set_option maxRecDepth 20000 in
theorem gX8_store_X8_calls : GoodIn wsX8_store (wsV RX8 168 RX8 yX8_calls wsX8_calls) := goodIn_app (goodIn_of _ (by decide +kernel)) ggX8_store_X8_calls
set_option maxRecDepth 20000 in
theorem ggX8_load_X8_calls : GoodIn wsX8_load wsX8_calls := goodIn_r _ [5, 6, 7, 8, 4, 9, 10, 11, 12, 13, 14, 15, 16, 17, 18, 19, 20, 21, 22, 23, 24, 25, 26, 27, 28, 29, 30, 31, 32, 33, 34, 35, 36, 37, 38, 39, 40, 41, 42, 43, 44, 45, 46, 47, 48, 49, 50, 51, 52, 53, 54, 55, 56, 57, 58, 59, 60, 61, 62, 63, 64, 65, 66, 67, 68, 69, 70, 71, 72, 73, 74, 75, 76, 77, 78, 79, 80, 81, 82, 83, 84, 85, 86, 87, 88, 89, 90, 91, 92, 93, 94, 95, 96, 97, 98, 99, 100, 101, 102, 103, 104, 105, 106, 107, 108, 109, 110, 111, 112, 113, 114, 115, 116, 117, 118, 119, 120, 121, 122, 123, 124, 125, 126, 127, 128, 129, 130, 131, 132, 133, 134, 135, 136, 137, 138, 139, 140, 141, 142, 143, 144, 145, 146, 147, 148, 149, 150, 151, 152, 153, 154, 155, 156, 157, 158, 159, 160, 161, 162, 163, 164, 165, 166, 167, 168, 169, 170, 171] (by decide +kernel) (by decide +kernel)
set_option maxRecDepth 20000 in
theorem gX8_load_X8_calls : GoodIn wsX8_load (wsV RX8 168 RX8 yX8_calls wsX8_calls) := goodIn_app (goodIn_of _ (by decide +kernel)) ggX8_load_X8_calls
set_option maxRecDepth 20000 in
theorem ggX8_compare_X8_comparesTo : GoodIn wsX8_compare wsX8_comparesTo := goodIn_r _ [5, 6, 7, 4, 8, 9, 10, 11, 12, 13, 14, 15, 16, 17, 18, 19, 20, 21, 22, 23, 24, 25, 26, 27, 34, 35, 36, 37, 38, 39, 40, 41, 42, 43, 44, 45, 46, 47, 48, 49, 50, 51, 52] (by decide +kernel) (by decide +kernel)
set_option maxRecDepth 20000 in
theorem gX8_compare_X8_comparesTo : GoodIn wsX8_compare (wsV RX8 171 RX8 yX8_comparesTo wsX8_comparesTo) := goodIn_app (goodIn_of _ (by decide +kernel)) ggX8_compare_X8_comparesTo
set_option maxRecDepth 20000 in
theorem ggX8_compare_X8_counted : GoodIn wsX8_compare wsX8_counted := goodIn_r _ [31, 32, 33, 34, 35, 36, 37, 38, 39, 40, 41, 42, 43, 44, 45, 46, 47, 48, 49, 50, 51, 52] (by decide +kernel) (by decide +kernel)
set_option maxRecDepth 20000 in
theorem gX8_compare_X8_counted : GoodIn wsX8_compare (wsV RX8 165 RX8 yX8_counted wsX8_counted) := goodIn_app (goodIn_of _ (by decide +kernel)) ggX8_compare_X8_counted
set_option maxRecDepth 20000 in
theorem ggX8_blit_X8_calls : GoodIn wsX8_blit wsX8_calls := goodIn_r _ [5, 6, 7, 8, 4, 9, 10, 11, 12, 13, 14, 15, 16, 17, 18, 19, 20, 21, 22, 23, 24, 25, 26, 27, 28, 29, 30, 31, 32, 33, 34, 35, 36, 37, 38, 39, 40, 41, 42, 43, 44, 45, 46, 47, 48, 49, 50, 51, 52, 53, 54, 55, 56, 57, 58, 59, 60, 61, 62, 63, 64, 65, 66, 67, 68, 69, 70, 71, 72, 73, 74, 75, 76, 77, 78, 79, 80, 81, 82, 83, 84, 85, 86, 87, 88, 89, 90, 91, 92, 93, 94, 95, 96, 97, 98, 99, 100, 101, 102, 103, 104, 105, 106, 107, 108, 109, 110, 111, 112, 113, 114, 115, 116, 117, 118, 119, 120, 121, 122, 123, 124, 125, 126, 127, 128, 129, 130, 131, 132, 133, 134, 135, 136, 137, 138, 139, 140, 141, 142, 143, 144, 145, 146, 147, 148, 149, 150, 151, 152, 153, 154, 155, 156, 157, 158, 159, 160, 161, 162, 163, 164, 165, 166, 167, 168, 169, 170, 171] (by decide +kernel) (by decide +kernel)
set_option maxRecDepth 20000 in
theorem gX8_blit_X8_calls : GoodIn wsX8_blit (wsV RX8 168 RX8 yX8_calls wsX8_calls) := goodIn_app (goodIn_of _ (by decide +kernel)) ggX8_blit_X8_calls
set_option maxRecDepth 20000 in
theorem ggX8_freeze_X8_calls : GoodIn wsX8_freeze wsX8_calls := goodIn_r _ [5, 6, 7, 8, 4, 9, 10, 11, 12, 13, 14, 15, 16, 17, 18, 19, 20, 21, 22, 23, 24, 25, 26, 27, 28, 29, 30, 31, 32, 33, 34, 35, 36, 37, 38, 39, 40, 41, 42, 43, 44, 45, 46, 47, 48, 49, 50, 51, 52, 53, 54, 55, 56, 57, 58, 59, 60, 61, 62, 63, 64, 65, 66, 67, 68, 69, 70, 71, 72, 73, 74, 75, 76, 77, 78, 79, 80, 81, 82, 83, 84, 85, 86, 87, 88, 89, 90, 91, 92, 93, 94, 95, 96, 97, 98, 99, 100, 101, 102, 103, 104, 105, 106, 107, 108, 109, 110, 111, 112, 113, 114, 115, 116, 117, 118, 119, 120, 121, 122, 123, 124, 125, 126, 127, 128, 129, 130, 131, 132, 133, 134, 135, 136, 137, 138, 139, 140, 141, 142, 143, 144, 145, 146, 147, 148, 149, 150, 151, 152, 153, 154, 155, 156, 157, 158, 159, 160, 161, 162, 163, 164, 165, 166, 167, 168, 169, 170, 171] (by decide +kernel) (by decide +kernel)
set_option maxRecDepth 20000 in
theorem gX8_freeze_X8_calls : GoodIn wsX8_freeze (wsV RX8 168 RX8 yX8_calls wsX8_calls) := goodIn_app (goodIn_of _ (by decide +kernel)) ggX8_freeze_X8_calls
set_option maxRecDepth 20000 in
theorem ggX8_forget_X8_isRegister : GoodIn wsX8_forget wsX8_isRegister := goodIn_r _ [4, 5, 6, 3, 7] (by decide +kernel) (by decide +kernel)
set_option maxRecDepth 20000 in
theorem gX8_forget_X8_isRegister : GoodIn wsX8_forget (va_wsS RX8 85 yX8_isRegister wsX8_isRegister) := goodIn_app (goodIn_of _ (by decide +kernel)) ggX8_forget_X8_isRegister
set_option maxRecDepth 20000 in
theorem ggX8_forget_X8_bad : GoodIn wsX8_forget wsX8_bad := goodIn_r _ [11, 12, 33, 34, 35, 36, 37, 38, 39, 40, 41, 42, 43, 44, 45, 46, 47, 48, 49, 50, 51] (by decide +kernel) (by decide +kernel)
set_option maxRecDepth 20000 in
theorem gX8_forget_X8_bad : GoodIn wsX8_forget (wsV RX8 174 RX8 yX8_bad wsX8_bad) := goodIn_app (goodIn_of _ (by decide +kernel)) ggX8_forget_X8_bad
set_option maxRecDepth 20000 in
theorem ggX8_forget_X8_copies : GoodIn wsX8_forget wsX8_copies := goodIn_r _ [16, 17, 18, 33, 34, 35, 36, 37, 38, 39, 40, 41, 42, 43, 44, 45, 46, 47, 48, 49, 50, 51] (by decide +kernel) (by decide +kernel)
set_option maxRecDepth 20000 in
theorem gX8_forget_X8_copies : GoodIn wsX8_forget (wsV RX8 156 RX8 yX8_copies wsX8_copies) := goodIn_app (goodIn_of _ (by decide +kernel)) ggX8_forget_X8_copies
set_option maxRecDepth 20000 in
theorem ggX8_forget_X8_remembers : GoodIn wsX8_forget wsX8_remembers := goodIn_r _ [22, 23, 24, 17, 33, 34, 35, 36, 37, 38, 39, 40, 41, 42, 43, 44, 45, 46, 47, 48, 49, 50, 51] (by decide +kernel) (by decide +kernel)
set_option maxRecDepth 20000 in
theorem gX8_forget_X8_remembers : GoodIn wsX8_forget (wsV RX8 162 RX8 yX8_remembers wsX8_remembers) := goodIn_app (goodIn_of _ (by decide +kernel)) ggX8_forget_X8_remembers
set_option maxRecDepth 20000 in
theorem ggX8_forget_X8_kindOf : GoodIn wsX8_forget wsX8_kindOf := goodIn_r _ [28, 18, 33, 34, 35, 36, 37, 38, 39, 40, 41, 42, 43, 44, 45, 46, 47, 48, 49, 50, 51] (by decide +kernel) (by decide +kernel)
set_option maxRecDepth 20000 in
theorem gX8_forget_X8_kindOf : GoodIn wsX8_forget (wsV RX8 55 RX8 yX8_kindOf wsX8_kindOf) := goodIn_app (goodIn_of _ (by decide +kernel)) ggX8_forget_X8_kindOf
set_option maxRecDepth 20000 in
theorem ggX8_forget_X8_tells : GoodIn wsX8_forget wsX8_tells := goodIn_r _ [32, 18, 33, 34, 35, 36, 37, 38, 39, 40, 41, 42, 43, 44, 45, 46, 47, 48, 49, 50, 51] (by decide +kernel) (by decide +kernel)
set_option maxRecDepth 20000 in
theorem gX8_forget_X8_tells : GoodIn wsX8_forget (wsV RX8 88 RX8 yX8_tells wsX8_tells) := goodIn_app (goodIn_of _ (by decide +kernel)) ggX8_forget_X8_tells
set_option maxRecDepth 20000 in
theorem ggX8_budget_X8_in : GoodIn wsX8_budget wsX8_in := goodIn_r _ [5] (by decide +kernel) (by decide +kernel)
set_option maxRecDepth 20000 in
theorem gX8_budget_X8_in : GoodIn wsX8_budget (va_wsS RX8 51 yX8_in wsX8_in) := goodIn_app (goodIn_of _ (by decide +kernel)) ggX8_budget_X8_in
set_option maxRecDepth 20000 in
theorem ggX8_budget_X8_bad : GoodIn wsX8_budget wsX8_bad := goodIn_r _ [9, 10, 22, 23, 24, 25, 26, 27, 28, 29, 30, 31, 32, 33, 34, 35, 36, 37, 38, 39, 40] (by decide +kernel) (by decide +kernel)
set_option maxRecDepth 20000 in
theorem gX8_budget_X8_bad : GoodIn wsX8_budget (wsV RX8 174 RX8 yX8_bad wsX8_bad) := goodIn_app (goodIn_of _ (by decide +kernel)) ggX8_budget_X8_bad
set_option maxRecDepth 20000 in
theorem ggX8_budget_X8_copies : GoodIn wsX8_budget wsX8_copies := goodIn_r _ [14, 15, 1, 22, 23, 24, 25, 26, 27, 28, 29, 30, 31, 32, 33, 34, 35, 36, 37, 38, 39, 40] (by decide +kernel) (by decide +kernel)
set_option maxRecDepth 20000 in
theorem gX8_budget_X8_copies : GoodIn wsX8_budget (wsV RX8 156 RX8 yX8_copies wsX8_copies) := goodIn_app (goodIn_of _ (by decide +kernel)) ggX8_budget_X8_copies
set_option maxRecDepth 20000 in
theorem ggX8_budget_X8_remembers : GoodIn wsX8_budget wsX8_remembers := goodIn_r _ [19, 20, 21, 15, 22, 23, 24, 25, 26, 27, 28, 29, 30, 31, 32, 33, 34, 35, 36, 37, 38, 39, 40] (by decide +kernel) (by decide +kernel)
set_option maxRecDepth 20000 in
theorem gX8_budget_X8_remembers : GoodIn wsX8_budget (wsV RX8 162 RX8 yX8_remembers wsX8_remembers) := goodIn_app (goodIn_of _ (by decide +kernel)) ggX8_budget_X8_remembers
set_option maxRecDepth 20000 in
theorem ggX8_ofRegister_X8_kindOf : GoodIn wsX8_ofRegister wsX8_kindOf := goodIn_r _ [5, 6, 15, 16, 17, 18, 19, 20, 21, 22, 23, 24, 25, 26, 27, 28, 29, 30, 31, 32, 33] (by decide +kernel) (by decide +kernel)
set_option maxRecDepth 20000 in
theorem gX8_ofRegister_X8_kindOf : GoodIn wsX8_ofRegister (wsV RX8 55 RX8 yX8_kindOf wsX8_kindOf) := goodIn_app (goodIn_of _ (by decide +kernel)) ggX8_ofRegister_X8_kindOf
set_option maxRecDepth 20000 in
theorem ggX8_ofRegister_X8_valueOf : GoodIn wsX8_ofRegister wsX8_valueOf := goodIn_r _ [10, 6, 15, 16, 17, 18, 19, 20, 21, 22, 23, 24, 25, 26, 27, 28, 29, 30, 31, 32, 33] (by decide +kernel) (by decide +kernel)
