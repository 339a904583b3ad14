set_option maxRecDepth 100000 in
theorem tk_X7_hasCells_0 : zTok zM (zM 37).1.cls (zM 37).1.name (zM 37).2.1 (zM 37).2.2.2.2.1 tb_X7_hasCells := zTok_of [213, 213] [] (by decide +kernel) (by decide +kernel) (by decide +kernel) (by decide +kernel) (by decide +kernel) (by decide +kernel)
theorem ok_X7_hasCells : zMok zM 37 := ⟨tk_X7_hasCells_0, by decide +kernel, ⟨by decide +kernel, by decide +kernel⟩, by decide +kernel, by decide +kernel⟩
set_option maxRecDepth 100000 in
theorem tk_X7_faultOfLane_0 : zTok zM (zM 38).1.cls (zM 38).1.name (zM 38).2.1 (zM 38).2.2.2.2.1 tb_X7_faultOfLane := zTok_of [279, 280, 281, 44, 282, 211] [] (by decide +kernel) (by decide +kernel) (by decide +kernel) (by decide +kernel) (by decide +kernel) (by decide +kernel)
theorem ok_X7_faultOfLane : zMok zM 38 := ⟨tk_X7_faultOfLane_0, by decide +kernel, ⟨by decide +kernel, by decide +kernel⟩, by decide +kernel, by decide +kernel⟩
set_option maxRecDepth 100000 in
theorem tk_X7_faultOfCells_0 : zTok zM (zM 39).1.cls (zM 39).1.name (zM 39).2.1 (zM 39).2.2.2.2.1 tb_X7_faultOfCells := zTok_of [275, 276, 277, 44, 278, 283, 284, 285, 44, 286] [] (by decide +kernel) (by decide +kernel) (by decide +kernel) (by decide +kernel) (by decide +kernel) (by decide +kernel)
theorem ok_X7_faultOfCells : zMok zM 39 := ⟨tk_X7_faultOfCells_0, by decide +kernel, ⟨by decide +kernel, by decide +kernel⟩, by decide +kernel, by decide +kernel⟩
set_option maxRecDepth 100000 in
theorem tk_X7_read_0 : zTok zM (zM 40).1.cls (zM 40).1.name (zM 40).2.1 (zM 40).2.2.2.2.1 tb_X7_read := zTok_of [298, 299, 300, 44, 301, 214] [] (by decide +kernel) (by decide +kernel) (by decide +kernel) (by decide +kernel) (by decide +kernel) (by decide +kernel)
theorem ok_X7_read : zMok zM 40 := ⟨tk_X7_read_0, by decide +kernel, ⟨by decide +kernel, by decide +kernel⟩, by decide +kernel, by decide +kernel⟩
set_option maxRecDepth 100000 in
theorem tk_X7_write_0 : zTok zM (zM 41).1.cls (zM 41).1.name (zM 41).2.1 (zM 41).2.2.2.2.1 tb_X7_write := zTok_of [298, 299, 300, 44, 301, 214, 211, 211] [] (by decide +kernel) (by decide +kernel) (by decide +kernel) (by decide +kernel) (by decide +kernel) (by decide +kernel)
theorem ok_X7_write : zMok zM 41 := ⟨tk_X7_write_0, by decide +kernel, ⟨by decide +kernel, by decide +kernel⟩, by decide +kernel, by decide +kernel⟩
set_option maxRecDepth 100000 in
theorem tk_X8_init_0 : zTok zM (zM 42).1.cls (zM 42).1.name (zM 42).2.1 (zM 42).2.2.2.2.1 tb_X8_init := zTok_of [327, 58, 59, 328, 328, 328, 332, 332, 332, 336, 336, 336, 340, 340, 340, 344, 344, 344] [] (by decide +kernel) (by decide +kernel) (by decide +kernel) (by decide +kernel) (by decide +kernel) (by decide +kernel)
theorem ok_X8_init : zMok zM 42 := ⟨tk_X8_init_0, by decide +kernel, ⟨by decide +kernel, by decide +kernel⟩, by decide +kernel, by decide +kernel⟩
set_option maxRecDepth 100000 in
theorem tk_X8_kind_0 : zTok zM (zM 43).1.cls (zM 43).1.name (zM 43).2.1 (zM 43).2.2.2.2.1 tb_X8_kind := zTok_of [] [] (by decide +kernel) (by decide +kernel) (by decide +kernel) (by decide +kernel) (by decide +kernel) (by decide +kernel)
theorem ok_X8_kind : zMok zM 43 := ⟨tk_X8_kind_0, by decide +kernel, ⟨by decide +kernel, by decide +kernel⟩, by decide +kernel, by decide +kernel⟩
set_option maxRecDepth 100000 in
theorem tk_X8_isAnswered_0 : zTok zM (zM 44).1.cls (zM 44).1.name (zM 44).2.1 (zM 44).2.2.2.2.1 tb_X8_isAnswered := zTok_of [410, 413, 414, 411, 46, 416, 410, 413, 415, 411, 46, 416, 410, 411, 412, 46, 416] [] (by decide +kernel) (by decide +kernel) (by decide +kernel) (by decide +kernel) (by decide +kernel) (by decide +kernel)
theorem ok_X8_isAnswered : zMok zM 44 := ⟨tk_X8_isAnswered_0, by decide +kernel, ⟨by decide +kernel, by decide +kernel⟩, by decide +kernel, by decide +kernel⟩
set_option maxRecDepth 100000 in
theorem tk_X8_hasEitherNeed_0 : zTok zM (zM 45).1.cls (zM 45).1.name (zM 45).2.1 (zM 45).2.2.2.2.1 tb_X8_hasEitherNeed := zTok_of [332, 332, 332, 402, 36, 403, 336, 336, 336, 402, 36, 403] [417, 417] (by decide +kernel) (by decide +kernel) (by decide +kernel) (by decide +kernel) (by decide +kernel) (by decide +kernel)
theorem ok_X8_hasEitherNeed : zMok zM 45 := ⟨tk_X8_hasEitherNeed_0, by decide +kernel, ⟨by decide +kernel, by decide +kernel⟩, by decide +kernel, by decide +kernel⟩
set_option maxRecDepth 100000 in
theorem tk_X8_oddsUnanswered_0 : zTok zM (zM 46).1.cls (zM 46).1.name (zM 46).2.1 (zM 46).2.2.2.2.1 tb_X8_oddsUnanswered := zTok_of [332, 332, 332, 336, 336, 336] [] (by decide +kernel) (by decide +kernel) (by decide +kernel) (by decide +kernel) (by decide +kernel) (by decide +kernel)
theorem ok_X8_oddsUnanswered : zMok zM 46 := ⟨tk_X8_oddsUnanswered_0, by decide +kernel, ⟨by decide +kernel, by decide +kernel⟩, by decide +kernel, by decide +kernel⟩
set_option maxRecDepth 100000 in
theorem tk_X8_telling_0 : zTok zM (zM 47).1.cls (zM 47).1.name (zM 47).2.1 (zM 47).2.2.2.2.1 tb_X8_telling := zTok_of [630, 1030, 1031, 626, 46, 627, 630, 1030, 1032, 626, 46, 627, 630, 626, 1033, 46, 627] [] (by decide +kernel) (by decide +kernel) (by decide +kernel) (by decide +kernel) (by decide +kernel) (by decide +kernel)
theorem ok_X8_telling : zMok zM 47 := ⟨tk_X8_telling_0, by decide +kernel, ⟨by decide +kernel, by decide +kernel⟩, by decide +kernel, by decide +kernel⟩
set_option maxRecDepth 100000 in
theorem tk_X8_plainTelling_0 : zTok zM (zM 48).1.cls (zM 48).1.name (zM 48).2.1 (zM 48).2.2.2.2.1 tb_X8_plainTelling := zTok_of [628, 613, 614, 39, 615, 340, 340, 340] [] (by decide +kernel) (by decide +kernel) (by decide +kernel) (by decide +kernel) (by decide +kernel) (by decide +kernel)
theorem ok_X8_plainTelling : zMok zM 48 := ⟨tk_X8_plainTelling_0, by decide +kernel, ⟨by decide +kernel, by decide +kernel⟩, by decide +kernel, by decide +kernel⟩
set_option maxRecDepth 100000 in
theorem tk_X8_whispering_0 : zTok zM (zM 49).1.cls (zM 49).1.name (zM 49).2.1 (zM 49).2.2.2.2.1 tb_X8_whispering := zTok_of [628, 613, 614, 39, 615, 328, 328, 328] [] (by decide +kernel) (by decide +kernel) (by decide +kernel) (by decide +kernel) (by decide +kernel) (by decide +kernel)
theorem ok_X8_whispering : zMok zM 49 := ⟨tk_X8_whispering_0, by decide +kernel, ⟨by decide +kernel, by decide +kernel⟩, by decide +kernel, by decide +kernel⟩
set_option maxRecDepth 100000 in
theorem tk_X9_init_0 : zTok zM (zM 50).1.cls (zM 50).1.name (zM 50).2.1 (zM 50).2.2.2.2.1 tb_X9_init := zTok_of [114, 58, 59, 115] [] (by decide +kernel) (by decide +kernel) (by decide +kernel) (by decide +kernel) (by decide +kernel) (by decide +kernel)
theorem ok_X9_init : zMok zM 50 := ⟨tk_X9_init_0, by decide +kernel, ⟨by decide +kernel, by decide +kernel⟩, by decide +kernel, by decide +kernel⟩
set_option maxRecDepth 100000 in
theorem tk_X9_leave_0 : zTok zM (zM 51).1.cls (zM 51).1.name (zM 51).2.1 (zM 51).2.2.2.2.1 tb_X9_leave := zTok_of [115, 115] [] (by decide +kernel) (by decide +kernel) (by decide +kernel) (by decide +kernel) (by decide +kernel) (by decide +kernel)
theorem ok_X9_leave : zMok zM 51 := ⟨tk_X9_leave_0, by decide +kernel, ⟨by decide +kernel, by decide +kernel⟩, by decide +kernel, by decide +kernel⟩
set_option maxRecDepth 100000 in
theorem tk_X10_init_0 : zTok zM (zM 52).1.cls (zM 52).1.name (zM 52).2.1 (zM 52).2.2.2.2.1 tb_X10_init_0 := zTok_of [57, 58, 59, 60, 61, 37, 62, 63, 37, 64, 223, 224, 225, 83, 84, 38, 85, 86, 38, 87, 226, 107, 227, 109, 110, 39, 111, 112, 39, 113, 228, 229, 106, 230, 231, 120, 121, 40] [108] (by decide +kernel) (by decide +kernel) (by decide +kernel) (by decide +kernel) (by decide +kernel) (by decide +kernel)
set_option maxRecDepth 100000 in
theorem tk_X10_init_1 : zTok zM (zM 52).1.cls (zM 52).1.name (zM 52).2.1 (zM 52).2.2.2.2.1 tb_X10_init_1 := zTok_of [122, 123, 40, 124, 232, 161, 162, 41, 163, 164, 41, 165, 233, 192, 193, 43, 194, 195, 43, 196, 234, 227, 107, 206, 44, 207, 208, 44, 209] [] (by decide +kernel) (by decide +kernel) (by decide +kernel) (by decide +kernel) (by decide +kernel) (by decide +kernel)
theorem ok_X10_init : zMok zM 52 := ⟨zTok_app (tk_X10_init_0) tk_X10_init_1, by decide +kernel, ⟨by decide +kernel, by decide +kernel⟩, by decide +kernel, by decide +kernel⟩
set_option maxRecDepth 100000 in
theorem tk_X10_forest_0 : zTok zM (zM 53).1.cls (zM 53).1.name (zM 53).2.1 (zM 53).2.2.2.2.1 tb_X10_forest_0 := zTok_of [229, 264, 266, 0, 36, 267, 268, 269, 36, 270, 271, 272, 273, 44, 274, 287, 289, 1, 36, 290, 291, 292, 37, 293] [] (by decide +kernel) (by decide +kernel) (by decide +kernel) (by decide +kernel) (by decide +kernel) (by decide +kernel)
set_option maxRecDepth 100000 in
theorem tk_X10_forest_1 : zTok zM (zM 53).1.cls (zM 53).1.name (zM 53).2.1 (zM 53).2.2.2.2.1 tb_X10_forest_1 := zTok_of [223, 306, 307, 308, 37, 309, 224, 225, 226, 90, 223, 73] [] (by decide +kernel) (by decide +kernel) (by decide +kernel) (by decide +kernel) (by decide +kernel) (by decide +kernel)
theorem ok_X10_forest : zMok zM 53 := ⟨zTok_app (tk_X10_forest_0) tk_X10_forest_1, by decide +kernel, ⟨by decide +kernel, by decide +kernel⟩, by decide +kernel, by decide +kernel⟩
set_option maxRecDepth 100000 in
theorem tk_X10_ofTale_0 : zTok zM (zM 54).1.cls (zM 54).1.name (zM 54).2.1 (zM 54).2.2.2.2.1 tb_X10_ofTale := zTok_of [223, 379, 380, 381, 37, 382, 383, 386, 387, 388, 47, 389, 384, 393, 383, 386, 390, 391, 48, 392, 384, 393, 383, 384, 385, 46, 393, 335, 335, 335, 339, 339, 339, 341, 341, 341, 345, 345, 345, 224, 394, 397, 398, 399, 47, 400, 395, 409, 394, 397, 404, 405, 48, 406, 395, 409, 394, 395, 396, 46, 409] [] (by decide +kernel) (by decide +kernel) (by decide +kernel) (by decide +kernel) (by decide +kernel) (by decide +kernel)
theorem ok_X10_ofTale : zMok zM 54 := ⟨tk_X10_ofTale_0, by decide +kernel, ⟨by decide +kernel, by decide +kernel⟩, by decide +kernel, by decide +kernel⟩
set_option maxRecDepth 100000 in
theorem tk_X10_know_0 : zTok zM (zM 55).1.cls (zM 55).1.name (zM 55).2.1 (zM 55).2.2.2.2.1 tb_X10_know := zTok_of [268, 269, 36, 270, 223, 73, 224, 422, 402, 36, 403, 224, 224] [] (by decide +kernel) (by decide +kernel) (by decide +kernel) (by decide +kernel) (by decide +kernel) (by decide +kernel)
theorem ok_X10_know : zMok zM 55 := ⟨tk_X10_know_0, by decide +kernel, ⟨by decide +kernel, by decide +kernel⟩, by decide +kernel, by decide +kernel⟩
set_option maxRecDepth 100000 in
theorem tk_X10_believe_0 : zTok zM (zM 56).1.cls (zM 56).1.name (zM 56).2.1 (zM 56).2.2.2.2.1 tb_X10_believe := zTok_of [268, 269, 36, 270, 223, 73, 225, 422, 402, 36, 403, 225, 225] [] (by decide +kernel) (by decide +kernel) (by decide +kernel) (by decide +kernel) (by decide +kernel) (by decide +kernel)
theorem ok_X10_believe : zMok zM 56 := ⟨tk_X10_believe_0, by decide +kernel, ⟨by decide +kernel, by decide +kernel⟩, by decide +kernel, by decide +kernel⟩
set_option maxRecDepth 100000 in
theorem tk_X10_night_0 : zTok zM (zM 57).1.cls (zM 57).1.name (zM 57).2.1 (zM 57).2.2.2.2.1 tb_X10_night := zTok_of [431, 433, 2, 36, 434, 224, 436, 438, 3, 36, 439, 232, 128, 232, 131, 232, 133, 232, 136] [] (by decide +kernel) (by decide +kernel) (by decide +kernel) (by decide +kernel) (by decide +kernel) (by decide +kernel)
theorem ok_X10_night : zMok zM 57 := ⟨tk_X10_night_0, by decide +kernel, ⟨by decide +kernel, by decide +kernel⟩, by decide +kernel, by decide +kernel⟩
set_option maxRecDepth 100000 in
theorem tk_X10_comes_0 : zTok zM (zM 58).1.cls (zM 58).1.name (zM 58).2.1 (zM 58).2.2.2.2.1 tb_X10_comes := zTok_of [431, 433, 2, 36, 434, 224, 436, 438, 3, 36, 439, 232, 140] [] (by decide +kernel) (by decide +kernel) (by decide +kernel) (by decide +kernel) (by decide +kernel) (by decide +kernel)
theorem ok_X10_comes : zMok zM 58 := ⟨tk_X10_comes_0, by decide +kernel, ⟨by decide +kernel, by decide +kernel⟩, by decide +kernel, by decide +kernel⟩
set_option maxRecDepth 100000 in
theorem tk_X10_takeOrder_0 : zTok zM (zM 59).1.cls (zM 59).1.name (zM 59).2.1 (zM 59).2.2.2.2.1 tb_X10_takeOrder_0 := zTok_of [229, 264, 266, 0, 36, 267, 268, 269, 36, 270, 268, 269, 36, 270, 223, 73, 271, 272, 273, 44, 274, 287, 289, 1, 36, 290] [] (by decide +kernel) (by decide +kernel) (by decide +kernel) (by decide +kernel) (by decide +kernel) (by decide +kernel)
set_option maxRecDepth 100000 in
theorem tk_X10_takeOrder_1 : zTok zM (zM 59).1.cls (zM 59).1.name (zM 59).2.1 (zM 59).2.2.2.2.1 tb_X10_takeOrder_1 := zTok_of [230, 435, 295, 296, 44, 297, 223, 230, 379, 380, 381, 37, 382, 231] [] (by decide +kernel) (by decide +kernel) (by decide +kernel) (by decide +kernel) (by decide +kernel) (by decide +kernel)
theorem ok_X10_takeOrder : zMok zM 59 := ⟨zTok_app (tk_X10_takeOrder_0) tk_X10_takeOrder_1, by decide +kernel, ⟨by decide +kernel, by decide +kernel⟩, by decide +kernel, by decide +kernel⟩
set_option maxRecDepth 100000 in
theorem tk_X10_passNight_0 : zTok zM (zM 60).1.cls (zM 60).1.name (zM 60).2.1 (zM 60).2.2.2.2.1 tb_X10_passNight := zTok_of [232, 223, 70, 225, 440, 441, 442, 40, 443, 231, 232, 223, 230, 379, 380, 381, 37, 382, 444, 445, 446, 40, 447] [] (by decide +kernel) (by decide +kernel) (by decide +kernel) (by decide +kernel) (by decide +kernel) (by decide +kernel)
theorem ok_X10_passNight : zMok zM 60 := ⟨tk_X10_passNight_0, by decide +kernel, ⟨by decide +kernel, by decide +kernel⟩, by decide +kernel, by decide +kernel⟩
set_option maxRecDepth 100000 in
theorem tk_X10_never_0 : zTok zM (zM 61).1.cls (zM 61).1.name (zM 61).2.1 (zM 61).2.2.2.2.1 tb_X10_never_0 := zTok_of [268, 269, 36, 270, 268, 269, 36, 270, 223, 73, 232, 223, 70, 224, 225, 440, 441, 442, 40, 443, 233, 223, 232, 467, 468, 469, 41, 470, 233, 175] [] (by decide +kernel) (by decide +kernel) (by decide +kernel) (by decide +kernel) (by decide +kernel) (by decide +kernel)
set_option maxRecDepth 100000 in
theorem tk_X10_never_1 : zTok zM (zM 61).1.cls (zM 61).1.name (zM 61).2.1 (zM 61).2.2.2.2.1 tb_X10_never_1 := zTok_of [233, 175, 233, 177] [] (by decide +kernel) (by decide +kernel) (by decide +kernel) (by decide +kernel) (by decide +kernel) (by decide +kernel)
theorem ok_X10_never : zMok zM 61 := ⟨zTok_app (tk_X10_never_0) tk_X10_never_1, by decide +kernel, ⟨by decide +kernel, by decide +kernel⟩, by decide +kernel, by decide +kernel⟩
set_option maxRecDepth 100000 in
theorem tk_X10_study_0 : zTok zM (zM 62).1.cls (zM 62).1.name (zM 62).2.1 (zM 62).2.2.2.2.1 tb_X10_study_0 := zTok_of [431, 433, 2, 36, 434, 495, 496, 50, 497, 224, 436, 438, 3, 36, 439, 232, 140] [] (by decide +kernel) (by decide +kernel) (by decide +kernel) (by decide +kernel) (by decide +kernel) (by decide +kernel)
set_option maxRecDepth 100000 in
theorem tk_X10_study_1 : zTok zM (zM 62).1.cls (zM 62).1.name (zM 62).2.1 (zM 62).2.2.2.2.1 tb_X10_study_1 := zTok_of [] [] (by decide +kernel) (by decide +kernel) (by decide +kernel) (by decide +kernel) (by decide +kernel) (by decide +kernel)
theorem ok_X10_study : zMok zM 62 := ⟨zTok_app (tk_X10_study_0) tk_X10_study_1, by decide +kernel, ⟨by decide +kernel, by decide +kernel⟩, by decide +kernel, by decide +kernel⟩
set_option maxRecDepth 100000 in
theorem tk_X10_game_0 : zTok zM (zM 63).1.cls (zM 63).1.name (zM 63).2.1 (zM 63).2.2.2.2.1 tb_X10_game := zTok_of [268, 269, 36, 270, 223, 73, 232, 223, 70, 224, 225, 440, 441, 442, 40, 443, 234, 223, 232, 505, 506, 507, 43, 508] [] (by decide +kernel) (by decide +kernel) (by decide +kernel) (by decide +kernel) (by decide +kernel) (by decide +kernel)
theorem ok_X10_game : zMok zM 63 := ⟨tk_X10_game_0, by decide +kernel, ⟨by decide +kernel, by decide +kernel⟩, by decide +kernel, by decide +kernel⟩
set_option maxRecDepth 100000 in
theorem tk_X10_porter_0 : zTok zM (zM 64).1.cls (zM 64).1.name (zM 64).2.1 (zM 64).2.2.2.2.1 tb_X10_porter_0 := zTok_of [223, 379, 380, 381, 37, 382, 268, 269, 36, 270, 268, 269, 36, 270, 528, 529, 532, 533, 534, 47, 535, 530, 538, 529, 532, 537, 534, 47, 535, 530, 538, 529, 530, 531, 46, 538] [] (by decide +kernel) (by decide +kernel) (by decide +kernel) (by decide +kernel) (by decide +kernel) (by decide +kernel)
set_option maxRecDepth 100000 in
theorem tk_X10_porter_1 : zTok zM (zM 64).1.cls (zM 64).1.name (zM 64).2.1 (zM 64).2.2.2.2.1 tb_X10_porter_1 := zTok_of [] [] (by decide +kernel) (by decide +kernel) (by decide +kernel) (by decide +kernel) (by decide +kernel) (by decide +kernel)
theorem ok_X10_porter : zMok zM 64 := ⟨zTok_app (tk_X10_porter_0) tk_X10_porter_1, by decide +kernel, ⟨by decide +kernel, by decide +kernel⟩, by decide +kernel, by decide +kernel⟩
set_option maxRecDepth 100000 in
theorem tk_X10_reading_0 : zTok zM (zM 65).1.cls (zM 65).1.name (zM 65).2.1 (zM 65).2.2.2.2.1 tb_X10_reading := zTok_of [223, 379, 380, 381, 37, 382, 223, 379, 380, 381, 37, 382, 268, 269, 36, 270, 226, 543, 544, 545, 38, 546] [] (by decide +kernel) (by decide +kernel) (by decide +kernel) (by decide +kernel) (by decide +kernel) (by decide +kernel)
theorem ok_X10_reading : zMok zM 65 := ⟨tk_X10_reading_0, by decide +kernel, ⟨by decide +kernel, by decide +kernel⟩, by decide +kernel, by decide +kernel⟩
set_option maxRecDepth 100000 in
theorem tk_X10_back_0 : zTok zM (zM 66).1.cls (zM 66).1.name (zM 66).2.1 (zM 66).2.2.2.2.1 tb_X10_back := zTok_of [226, 90, 268, 269, 36, 270, 226, 226, 90, 90, 226, 90] [] (by decide +kernel) (by decide +kernel) (by decide +kernel) (by decide +kernel) (by decide +kernel) (by decide +kernel)
theorem ok_X10_back : zMok zM 66 := ⟨tk_X10_back_0, by decide +kernel, ⟨by decide +kernel, by decide +kernel⟩, by decide +kernel, by decide +kernel⟩
set_option maxRecDepth 100000 in
theorem tk_X10_fits_0 : zTok zM (zM 67).1.cls (zM 67).1.name (zM 67).2.1 (zM 67).2.2.2.2.1 tb_X10_fits_0 := zTok_of [268, 269, 36, 270, 223, 73, 555, 557, 9, 36, 558] [] (by decide +kernel) (by decide +kernel) (by decide +kernel) (by decide +kernel) (by decide +kernel) (by decide +kernel)
set_option maxRecDepth 100000 in
theorem tk_X10_fits_1 : zTok zM (zM 67).1.cls (zM 67).1.name (zM 67).2.1 (zM 67).2.2.2.2.1 tb_X10_fits_1 := zTok_of [] [] (by decide +kernel) (by decide +kernel) (by decide +kernel) (by decide +kernel) (by decide +kernel) (by decide +kernel)
theorem ok_X10_fits : zMok zM 67 := ⟨zTok_app (tk_X10_fits_0) tk_X10_fits_1, by decide +kernel, ⟨by decide +kernel, by decide +kernel⟩, by decide +kernel, by decide +kernel⟩
set_option maxRecDepth 100000 in
theorem tk_X10_fitsReadings_0 : zTok zM (zM 68).1.cls (zM 68).1.name (zM 68).2.1 (zM 68).2.2.2.2.1 tb_X10_fitsReadings_0 := zTok_of [226, 90, 232, 223, 70, 225, 440, 441, 442, 40, 443, 232, 223, 226, 92, 379, 380, 381, 37, 382, 444, 445, 446, 40, 447, 232, 223, 226, 94] [] (by decide +kernel) (by decide +kernel) (by decide +kernel) (by decide +kernel) (by decide +kernel) (by decide +kernel)
set_option maxRecDepth 100000 in
theorem tk_X10_fitsReadings_1 : zTok zM (zM 68).1.cls (zM 68).1.name (zM 68).2.1 (zM 68).2.2.2.2.1 tb_X10_fitsReadings_1 := zTok_of [379, 380, 381, 37, 382, 444, 445, 446, 40, 447, 232, 128, 226, 96] [] (by decide +kernel) (by decide +kernel) (by decide +kernel) (by decide +kernel) (by decide +kernel) (by decide +kernel)
theorem ok_X10_fitsReadings : zMok zM 68 := ⟨zTok_app (tk_X10_fitsReadings_0) tk_X10_fitsReadings_1, by decide +kernel, ⟨by decide +kernel, by decide +kernel⟩, by decide +kernel, by decide +kernel⟩
