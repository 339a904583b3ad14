set_option maxRecDepth 100000 in
theorem tk_X7_faultOfLane_0 : zTok zM (zM 37).1.cls (zM 37).1.name (zM 37).2.1 (zM 37).2.2.2.2.1 tb_X7_faultOfLane := zTok_of [278, 279, 280, 43, 281, 210] [] (by decide +kernel) (by decide +kernel) (by decide +kernel) (by decide +kernel) (by decide +kernel) (by decide +kernel)
theorem ok_X7_faultOfLane : zMok zM 37 := ⟨tk_X7_faultOfLane_0, by decide +kernel, ⟨by decide +kernel, by decide +kernel⟩, by decide +kernel, by decide +kernel⟩
set_option maxRecDepth 100000 in
theorem tk_X7_faultOfCells_0 : zTok zM (zM 38).1.cls (zM 38).1.name (zM 38).2.1 (zM 38).2.2.2.2.1 tb_X7_faultOfCells := zTok_of [274, 275, 276, 43, 277, 282, 283, 284, 43, 285] [] (by decide +kernel) (by decide +kernel) (by decide +kernel) (by decide +kernel) (by decide +kernel) (by decide +kernel)
theorem ok_X7_faultOfCells : zMok zM 38 := ⟨tk_X7_faultOfCells_0, by decide +kernel, ⟨by decide +kernel, by decide +kernel⟩, by decide +kernel, by decide +kernel⟩
set_option maxRecDepth 100000 in
theorem tk_X7_read_0 : zTok zM (zM 39).1.cls (zM 39).1.name (zM 39).2.1 (zM 39).2.2.2.2.1 tb_X7_read := zTok_of [297, 298, 299, 43, 300, 213] [] (by decide +kernel) (by decide +kernel) (by decide +kernel) (by decide +kernel) (by decide +kernel) (by decide +kernel)
theorem ok_X7_read : zMok zM 39 := ⟨tk_X7_read_0, by decide +kernel, ⟨by decide +kernel, by decide +kernel⟩, by decide +kernel, by decide +kernel⟩
set_option maxRecDepth 100000 in
theorem tk_X7_write_0 : zTok zM (zM 40).1.cls (zM 40).1.name (zM 40).2.1 (zM 40).2.2.2.2.1 tb_X7_write := zTok_of [297, 298, 299, 43, 300, 213, 210, 210] [] (by decide +kernel) (by decide +kernel) (by decide +kernel) (by decide +kernel) (by decide +kernel) (by decide +kernel)
theorem ok_X7_write : zMok zM 40 := ⟨tk_X7_write_0, by decide +kernel, ⟨by decide +kernel, by decide +kernel⟩, by decide +kernel, by decide +kernel⟩
set_option maxRecDepth 100000 in
theorem tk_X8_init_0 : zTok zM (zM 41).1.cls (zM 41).1.name (zM 41).2.1 (zM 41).2.2.2.2.1 tb_X8_init := zTok_of [326, 57, 58, 327, 327, 327, 331, 331, 331, 335, 335, 335, 339, 339, 339, 343, 343, 343] [] (by decide +kernel) (by decide +kernel) (by decide +kernel) (by decide +kernel) (by decide +kernel) (by decide +kernel)
theorem ok_X8_init : zMok zM 41 := ⟨tk_X8_init_0, by decide +kernel, ⟨by decide +kernel, by decide +kernel⟩, by decide +kernel, by decide +kernel⟩
set_option maxRecDepth 100000 in
theorem tk_X8_kind_0 : zTok zM (zM 42).1.cls (zM 42).1.name (zM 42).2.1 (zM 42).2.2.2.2.1 tb_X8_kind := zTok_of [] [] (by decide +kernel) (by decide +kernel) (by decide +kernel) (by decide +kernel) (by decide +kernel) (by decide +kernel)
theorem ok_X8_kind : zMok zM 42 := ⟨tk_X8_kind_0, by decide +kernel, ⟨by decide +kernel, by decide +kernel⟩, by decide +kernel, by decide +kernel⟩
set_option maxRecDepth 100000 in
theorem tk_X8_isAnswered_0 : zTok zM (zM 43).1.cls (zM 43).1.name (zM 43).2.1 (zM 43).2.2.2.2.1 tb_X8_isAnswered := zTok_of [409, 412, 413, 410, 45, 415, 409, 412, 414, 410, 45, 415, 409, 410, 411, 45, 415] [] (by decide +kernel) (by decide +kernel) (by decide +kernel) (by decide +kernel) (by decide +kernel) (by decide +kernel)
theorem ok_X8_isAnswered : zMok zM 43 := ⟨tk_X8_isAnswered_0, by decide +kernel, ⟨by decide +kernel, by decide +kernel⟩, by decide +kernel, by decide +kernel⟩
set_option maxRecDepth 100000 in
theorem tk_X8_hasEitherNeed_0 : zTok zM (zM 44).1.cls (zM 44).1.name (zM 44).2.1 (zM 44).2.2.2.2.1 tb_X8_hasEitherNeed := zTok_of [331, 331, 331, 401, 35, 402, 335, 335, 335, 401, 35, 402] [416, 416] (by decide +kernel) (by decide +kernel) (by decide +kernel) (by decide +kernel) (by decide +kernel) (by decide +kernel)
theorem ok_X8_hasEitherNeed : zMok zM 44 := ⟨tk_X8_hasEitherNeed_0, by decide +kernel, ⟨by decide +kernel, by decide +kernel⟩, by decide +kernel, by decide +kernel⟩
set_option maxRecDepth 100000 in
theorem tk_X8_oddsUnanswered_0 : zTok zM (zM 45).1.cls (zM 45).1.name (zM 45).2.1 (zM 45).2.2.2.2.1 tb_X8_oddsUnanswered := zTok_of [331, 331, 331, 335, 335, 335] [] (by decide +kernel) (by decide +kernel) (by decide +kernel) (by decide +kernel) (by decide +kernel) (by decide +kernel)
theorem ok_X8_oddsUnanswered : zMok zM 45 := ⟨tk_X8_oddsUnanswered_0, by decide +kernel, ⟨by decide +kernel, by decide +kernel⟩, by decide +kernel, by decide +kernel⟩
set_option maxRecDepth 100000 in
theorem tk_X8_telling_0 : zTok zM (zM 46).1.cls (zM 46).1.name (zM 46).2.1 (zM 46).2.2.2.2.1 tb_X8_telling := zTok_of [625, 1025, 1026, 621, 45, 622, 625, 1025, 1027, 621, 45, 622, 625, 621, 1028, 45, 622] [] (by decide +kernel) (by decide +kernel) (by decide +kernel) (by decide +kernel) (by decide +kernel) (by decide +kernel)
theorem ok_X8_telling : zMok zM 46 := ⟨tk_X8_telling_0, by decide +kernel, ⟨by decide +kernel, by decide +kernel⟩, by decide +kernel, by decide +kernel⟩
set_option maxRecDepth 100000 in
theorem tk_X8_plainTelling_0 : zTok zM (zM 47).1.cls (zM 47).1.name (zM 47).2.1 (zM 47).2.2.2.2.1 tb_X8_plainTelling := zTok_of [623, 608, 609, 38, 610, 339, 339, 339] [] (by decide +kernel) (by decide +kernel) (by decide +kernel) (by decide +kernel) (by decide +kernel) (by decide +kernel)
theorem ok_X8_plainTelling : zMok zM 47 := ⟨tk_X8_plainTelling_0, by decide +kernel, ⟨by decide +kernel, by decide +kernel⟩, by decide +kernel, by decide +kernel⟩
set_option maxRecDepth 100000 in
theorem tk_X8_whispering_0 : zTok zM (zM 48).1.cls (zM 48).1.name (zM 48).2.1 (zM 48).2.2.2.2.1 tb_X8_whispering := zTok_of [623, 608, 609, 38, 610, 327, 327, 327] [] (by decide +kernel) (by decide +kernel) (by decide +kernel) (by decide +kernel) (by decide +kernel) (by decide +kernel)
theorem ok_X8_whispering : zMok zM 48 := ⟨tk_X8_whispering_0, by decide +kernel, ⟨by decide +kernel, by decide +kernel⟩, by decide +kernel, by decide +kernel⟩
set_option maxRecDepth 100000 in
theorem tk_X9_init_0 : zTok zM (zM 49).1.cls (zM 49).1.name (zM 49).2.1 (zM 49).2.2.2.2.1 tb_X9_init := zTok_of [113, 57, 58, 114] [] (by decide +kernel) (by decide +kernel) (by decide +kernel) (by decide +kernel) (by decide +kernel) (by decide +kernel)
theorem ok_X9_init : zMok zM 49 := ⟨tk_X9_init_0, by decide +kernel, ⟨by decide +kernel, by decide +kernel⟩, by decide +kernel, by decide +kernel⟩
set_option maxRecDepth 100000 in
theorem tk_X9_leave_0 : zTok zM (zM 50).1.cls (zM 50).1.name (zM 50).2.1 (zM 50).2.2.2.2.1 tb_X9_leave := zTok_of [114, 114] [] (by decide +kernel) (by decide +kernel) (by decide +kernel) (by decide +kernel) (by decide +kernel) (by decide +kernel)
theorem ok_X9_leave : zMok zM 50 := ⟨tk_X9_leave_0, by decide +kernel, ⟨by decide +kernel, by decide +kernel⟩, by decide +kernel, by decide +kernel⟩
set_option maxRecDepth 100000 in
theorem tk_X10_init_0 : zTok zM (zM 51).1.cls (zM 51).1.name (zM 51).2.1 (zM 51).2.2.2.2.1 tb_X10_init_0 := zTok_of [56, 57, 58, 59, 60, 36, 61, 62, 36, 63, 222, 223, 224, 82, 83, 37, 84, 85, 37, 86, 225, 106, 226, 108, 109, 38, 110, 111, 38, 112, 227, 228, 105, 229, 230, 119, 120, 39] [107] (by decide +kernel) (by decide +kernel) (by decide +kernel) (by decide +kernel) (by decide +kernel) (by decide +kernel)
set_option maxRecDepth 100000 in
theorem tk_X10_init_1 : zTok zM (zM 51).1.cls (zM 51).1.name (zM 51).2.1 (zM 51).2.2.2.2.1 tb_X10_init_1 := zTok_of [121, 122, 39, 123, 231, 160, 161, 40, 162, 163, 40, 164, 232, 191, 192, 42, 193, 194, 42, 195, 233, 226, 106, 205, 43, 206, 207, 43, 208] [] (by decide +kernel) (by decide +kernel) (by decide +kernel) (by decide +kernel) (by decide +kernel) (by decide +kernel)
theorem ok_X10_init : zMok zM 51 := ⟨zTok_app (tk_X10_init_0) tk_X10_init_1, by decide +kernel, ⟨by decide +kernel, by decide +kernel⟩, by decide +kernel, by decide +kernel⟩
set_option maxRecDepth 100000 in
theorem tk_X10_forest_0 : zTok zM (zM 52).1.cls (zM 52).1.name (zM 52).2.1 (zM 52).2.2.2.2.1 tb_X10_forest_0 := zTok_of [228, 263, 265, 0, 35, 266, 267, 268, 35, 269, 270, 271, 272, 43, 273, 286, 288, 1, 35, 289, 290, 291, 36, 292] [] (by decide +kernel) (by decide +kernel) (by decide +kernel) (by decide +kernel) (by decide +kernel) (by decide +kernel)
set_option maxRecDepth 100000 in
theorem tk_X10_forest_1 : zTok zM (zM 52).1.cls (zM 52).1.name (zM 52).2.1 (zM 52).2.2.2.2.1 tb_X10_forest_1 := zTok_of [222, 305, 306, 307, 36, 308, 223, 224, 225, 89, 222, 72] [] (by decide +kernel) (by decide +kernel) (by decide +kernel) (by decide +kernel) (by decide +kernel) (by decide +kernel)
theorem ok_X10_forest : zMok zM 52 := ⟨zTok_app (tk_X10_forest_0) tk_X10_forest_1, by decide +kernel, ⟨by decide +kernel, by decide +kernel⟩, by decide +kernel, by decide +kernel⟩
set_option maxRecDepth 100000 in
theorem tk_X10_ofTale_0 : zTok zM (zM 53).1.cls (zM 53).1.name (zM 53).2.1 (zM 53).2.2.2.2.1 tb_X10_ofTale := zTok_of [222, 378, 379, 380, 36, 381, 382, 385, 386, 387, 46, 388, 383, 392, 382, 385, 389, 390, 47, 391, 383, 392, 382, 383, 384, 45, 392, 334, 334, 334, 338, 338, 338, 340, 340, 340, 344, 344, 344, 223, 393, 396, 397, 398, 46, 399, 394, 408, 393, 396, 403, 404, 47, 405, 394, 408, 393, 394, 395, 45, 408] [] (by decide +kernel) (by decide +kernel) (by decide +kernel) (by decide +kernel) (by decide +kernel) (by decide +kernel)
theorem ok_X10_ofTale : zMok zM 53 := ⟨tk_X10_ofTale_0, by decide +kernel, ⟨by decide +kernel, by decide +kernel⟩, by decide +kernel, by decide +kernel⟩
set_option maxRecDepth 100000 in
theorem tk_X10_know_0 : zTok zM (zM 54).1.cls (zM 54).1.name (zM 54).2.1 (zM 54).2.2.2.2.1 tb_X10_know := zTok_of [267, 268, 35, 269, 222, 72, 223, 421, 401, 35, 402, 223, 223] [] (by decide +kernel) (by decide +kernel) (by decide +kernel) (by decide +kernel) (by decide +kernel) (by decide +kernel)
theorem ok_X10_know : zMok zM 54 := ⟨tk_X10_know_0, by decide +kernel, ⟨by decide +kernel, by decide +kernel⟩, by decide +kernel, by decide +kernel⟩
set_option maxRecDepth 100000 in
theorem tk_X10_believe_0 : zTok zM (zM 55).1.cls (zM 55).1.name (zM 55).2.1 (zM 55).2.2.2.2.1 tb_X10_believe := zTok_of [267, 268, 35, 269, 222, 72, 224, 421, 401, 35, 402, 224, 224] [] (by decide +kernel) (by decide +kernel) (by decide +kernel) (by decide +kernel) (by decide +kernel) (by decide +kernel)
theorem ok_X10_believe : zMok zM 55 := ⟨tk_X10_believe_0, by decide +kernel, ⟨by decide +kernel, by decide +kernel⟩, by decide +kernel, by decide +kernel⟩
set_option maxRecDepth 100000 in
theorem tk_X10_night_0 : zTok zM (zM 56).1.cls (zM 56).1.name (zM 56).2.1 (zM 56).2.2.2.2.1 tb_X10_night := zTok_of [430, 432, 2, 35, 433, 223, 435, 437, 3, 35, 438, 231, 127, 231, 130, 231, 132, 231, 135] [] (by decide +kernel) (by decide +kernel) (by decide +kernel) (by decide +kernel) (by decide +kernel) (by decide +kernel)
theorem ok_X10_night : zMok zM 56 := ⟨tk_X10_night_0, by decide +kernel, ⟨by decide +kernel, by decide +kernel⟩, by decide +kernel, by decide +kernel⟩
set_option maxRecDepth 100000 in
theorem tk_X10_comes_0 : zTok zM (zM 57).1.cls (zM 57).1.name (zM 57).2.1 (zM 57).2.2.2.2.1 tb_X10_comes := zTok_of [430, 432, 2, 35, 433, 223, 435, 437, 3, 35, 438, 231, 139] [] (by decide +kernel) (by decide +kernel) (by decide +kernel) (by decide +kernel) (by decide +kernel) (by decide +kernel)
theorem ok_X10_comes : zMok zM 57 := ⟨tk_X10_comes_0, by decide +kernel, ⟨by decide +kernel, by decide +kernel⟩, by decide +kernel, by decide +kernel⟩
set_option maxRecDepth 100000 in
theorem tk_X10_takeOrder_0 : zTok zM (zM 58).1.cls (zM 58).1.name (zM 58).2.1 (zM 58).2.2.2.2.1 tb_X10_takeOrder_0 := zTok_of [228, 263, 265, 0, 35, 266, 267, 268, 35, 269, 267, 268, 35, 269, 222, 72, 270, 271, 272, 43, 273, 286, 288, 1, 35, 289] [] (by decide +kernel) (by decide +kernel) (by decide +kernel) (by decide +kernel) (by decide +kernel) (by decide +kernel)
set_option maxRecDepth 100000 in
theorem tk_X10_takeOrder_1 : zTok zM (zM 58).1.cls (zM 58).1.name (zM 58).2.1 (zM 58).2.2.2.2.1 tb_X10_takeOrder_1 := zTok_of [229, 434, 294, 295, 43, 296, 222, 229, 378, 379, 380, 36, 381, 230] [] (by decide +kernel) (by decide +kernel) (by decide +kernel) (by decide +kernel) (by decide +kernel) (by decide +kernel)
theorem ok_X10_takeOrder : zMok zM 58 := ⟨zTok_app (tk_X10_takeOrder_0) tk_X10_takeOrder_1, by decide +kernel, ⟨by decide +kernel, by decide +kernel⟩, by decide +kernel, by decide +kernel⟩
set_option maxRecDepth 100000 in
theorem tk_X10_passNight_0 : zTok zM (zM 59).1.cls (zM 59).1.name (zM 59).2.1 (zM 59).2.2.2.2.1 tb_X10_passNight := zTok_of [231, 222, 69, 224, 439, 440, 441, 39, 442, 230, 231, 222, 229, 378, 379, 380, 36, 381, 443, 444, 445, 39, 446] [] (by decide +kernel) (by decide +kernel) (by decide +kernel) (by decide +kernel) (by decide +kernel) (by decide +kernel)
theorem ok_X10_passNight : zMok zM 59 := ⟨tk_X10_passNight_0, by decide +kernel, ⟨by decide +kernel, by decide +kernel⟩, by decide +kernel, by decide +kernel⟩
set_option maxRecDepth 100000 in
theorem tk_X10_never_0 : zTok zM (zM 60).1.cls (zM 60).1.name (zM 60).2.1 (zM 60).2.2.2.2.1 tb_X10_never_0 := zTok_of [267, 268, 35, 269, 267, 268, 35, 269, 222, 72, 231, 222, 69, 223, 224, 439, 440, 441, 39, 442, 232, 222, 231, 466, 467, 468, 40, 469, 232, 174] [] (by decide +kernel) (by decide +kernel) (by decide +kernel) (by decide +kernel) (by decide +kernel) (by decide +kernel)
set_option maxRecDepth 100000 in
theorem tk_X10_never_1 : zTok zM (zM 60).1.cls (zM 60).1.name (zM 60).2.1 (zM 60).2.2.2.2.1 tb_X10_never_1 := zTok_of [232, 174, 232, 176] [] (by decide +kernel) (by decide +kernel) (by decide +kernel) (by decide +kernel) (by decide +kernel) (by decide +kernel)
theorem ok_X10_never : zMok zM 60 := ⟨zTok_app (tk_X10_never_0) tk_X10_never_1, by decide +kernel, ⟨by decide +kernel, by decide +kernel⟩, by decide +kernel, by decide +kernel⟩
set_option maxRecDepth 100000 in
theorem tk_X10_study_0 : zTok zM (zM 61).1.cls (zM 61).1.name (zM 61).2.1 (zM 61).2.2.2.2.1 tb_X10_study_0 := zTok_of [430, 432, 2, 35, 433, 490, 491, 49, 492, 223, 435, 437, 3, 35, 438, 231, 139] [] (by decide +kernel) (by decide +kernel) (by decide +kernel) (by decide +kernel) (by decide +kernel) (by decide +kernel)
set_option maxRecDepth 100000 in
theorem tk_X10_study_1 : zTok zM (zM 61).1.cls (zM 61).1.name (zM 61).2.1 (zM 61).2.2.2.2.1 tb_X10_study_1 := zTok_of [] [] (by decide +kernel) (by decide +kernel) (by decide +kernel) (by decide +kernel) (by decide +kernel) (by decide +kernel)
theorem ok_X10_study : zMok zM 61 := ⟨zTok_app (tk_X10_study_0) tk_X10_study_1, by decide +kernel, ⟨by decide +kernel, by decide +kernel⟩, by decide +kernel, by decide +kernel⟩
set_option maxRecDepth 100000 in
theorem tk_X10_game_0 : zTok zM (zM 62).1.cls (zM 62).1.name (zM 62).2.1 (zM 62).2.2.2.2.1 tb_X10_game := zTok_of [267, 268, 35, 269, 222, 72, 231, 222, 69, 223, 224, 439, 440, 441, 39, 442, 233, 222, 231, 500, 501, 502, 42, 503] [] (by decide +kernel) (by decide +kernel) (by decide +kernel) (by decide +kernel) (by decide +kernel) (by decide +kernel)
theorem ok_X10_game : zMok zM 62 := ⟨tk_X10_game_0, by decide +kernel, ⟨by decide +kernel, by decide +kernel⟩, by decide +kernel, by decide +kernel⟩
set_option maxRecDepth 100000 in
theorem tk_X10_porter_0 : zTok zM (zM 63).1.cls (zM 63).1.name (zM 63).2.1 (zM 63).2.2.2.2.1 tb_X10_porter_0 := zTok_of [222, 378, 379, 380, 36, 381, 267, 268, 35, 269, 267, 268, 35, 269, 523, 524, 527, 528, 529, 46, 530, 525, 533, 524, 527, 532, 529, 46, 530, 525, 533, 524, 525, 526, 45, 533] [] (by decide +kernel) (by decide +kernel) (by decide +kernel) (by decide +kernel) (by decide +kernel) (by decide +kernel)
set_option maxRecDepth 100000 in
theorem tk_X10_porter_1 : zTok zM (zM 63).1.cls (zM 63).1.name (zM 63).2.1 (zM 63).2.2.2.2.1 tb_X10_porter_1 := zTok_of [] [] (by decide +kernel) (by decide +kernel) (by decide +kernel) (by decide +kernel) (by decide +kernel) (by decide +kernel)
theorem ok_X10_porter : zMok zM 63 := ⟨zTok_app (tk_X10_porter_0) tk_X10_porter_1, by decide +kernel, ⟨by decide +kernel, by decide +kernel⟩, by decide +kernel, by decide +kernel⟩
set_option maxRecDepth 100000 in
theorem tk_X10_reading_0 : zTok zM (zM 64).1.cls (zM 64).1.name (zM 64).2.1 (zM 64).2.2.2.2.1 tb_X10_reading := zTok_of [222, 378, 379, 380, 36, 381, 222, 378, 379, 380, 36, 381, 267, 268, 35, 269, 225, 538, 539, 540, 37, 541] [] (by decide +kernel) (by decide +kernel) (by decide +kernel) (by decide +kernel) (by decide +kernel) (by decide +kernel)
theorem ok_X10_reading : zMok zM 64 := ⟨tk_X10_reading_0, by decide +kernel, ⟨by decide +kernel, by decide +kernel⟩, by decide +kernel, by decide +kernel⟩
set_option maxRecDepth 100000 in
theorem tk_X10_back_0 : zTok zM (zM 65).1.cls (zM 65).1.name (zM 65).2.1 (zM 65).2.2.2.2.1 tb_X10_back := zTok_of [225, 89, 267, 268, 35, 269, 225, 225, 89, 89, 225, 89] [] (by decide +kernel) (by decide +kernel) (by decide +kernel) (by decide +kernel) (by decide +kernel) (by decide +kernel)
theorem ok_X10_back : zMok zM 65 := ⟨tk_X10_back_0, by decide +kernel, ⟨by decide +kernel, by decide +kernel⟩, by decide +kernel, by decide +kernel⟩
set_option maxRecDepth 100000 in
theorem tk_X10_fits_0 : zTok zM (zM 66).1.cls (zM 66).1.name (zM 66).2.1 (zM 66).2.2.2.2.1 tb_X10_fits_0 := zTok_of [267, 268, 35, 269, 222, 72, 550, 552, 8, 35, 553] [] (by decide +kernel) (by decide +kernel) (by decide +kernel) (by decide +kernel) (by decide +kernel) (by decide +kernel)
set_option maxRecDepth 100000 in
theorem tk_X10_fits_1 : zTok zM (zM 66).1.cls (zM 66).1.name (zM 66).2.1 (zM 66).2.2.2.2.1 tb_X10_fits_1 := zTok_of [] [] (by decide +kernel) (by decide +kernel) (by decide +kernel) (by decide +kernel) (by decide +kernel) (by decide +kernel)
theorem ok_X10_fits : zMok zM 66 := ⟨zTok_app (tk_X10_fits_0) tk_X10_fits_1, by decide +kernel, ⟨by decide +kernel, by decide +kernel⟩, by decide +kernel, by decide +kernel⟩
set_option maxRecDepth 100000 in
theorem tk_X10_fitsReadings_0 : zTok zM (zM 67).1.cls (zM 67).1.name (zM 67).2.1 (zM 67).2.2.2.2.1 tb_X10_fitsReadings_0 := zTok_of [225, 89, 231, 222, 69, 224, 439, 440, 441, 39, 442, 231, 222, 225, 91, 378, 379, 380, 36, 381, 443, 444, 445, 39, 446, 231, 222, 225, 93] [] (by decide +kernel) (by decide +kernel) (by decide +kernel) (by decide +kernel) (by decide +kernel) (by decide +kernel)
set_option maxRecDepth 100000 in
theorem tk_X10_fitsReadings_1 : zTok zM (zM 67).1.cls (zM 67).1.name (zM 67).2.1 (zM 67).2.2.2.2.1 tb_X10_fitsReadings_1 := zTok_of [378, 379, 380, 36, 381, 443, 444, 445, 39, 446, 231, 127, 225, 95] [] (by decide +kernel) (by decide +kernel) (by decide +kernel) (by decide +kernel) (by decide +kernel) (by decide +kernel)
theorem ok_X10_fitsReadings : zMok zM 67 := ⟨zTok_app (tk_X10_fitsReadings_0) tk_X10_fitsReadings_1, by decide +kernel, ⟨by decide +kernel, by decide +kernel⟩, by decide +kernel, by decide +kernel⟩
