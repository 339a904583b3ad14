set_option maxRecDepth 100000 in
theorem tk_X10_sheet_0 : zTok zM (zM 69).1.cls (zM 69).1.name (zM 69).2.1 (zM 69).2.2.2.2.1 tb_X10_sheet := zTok_of [229, 264, 266, 0, 36, 267, 268, 269, 36, 270, 287, 289, 1, 36, 290, 563, 564, 565, 44, 566] [] (by decide +kernel) (by decide +kernel) (by decide +kernel) (by decide +kernel) (by decide +kernel) (by decide +kernel)
theorem ok_X10_sheet : zMok zM 69 := ⟨tk_X10_sheet_0, by decide +kernel, ⟨by decide +kernel, by decide +kernel⟩, by decide +kernel, by decide +kernel⟩
set_option maxRecDepth 100000 in
theorem tk_X10_lose_0 : zTok zM (zM 70).1.cls (zM 70).1.name (zM 70).2.1 (zM 70).2.2.2.2.1 tb_X10_lose := zTok_of [264, 266, 0, 36, 267, 576, 280, 281, 44, 282, 577, 578, 579, 44, 580] [] (by decide +kernel) (by decide +kernel) (by decide +kernel) (by decide +kernel) (by decide +kernel) (by decide +kernel)
theorem ok_X10_lose : zMok zM 70 := ⟨tk_X10_lose_0, by decide +kernel, ⟨by decide +kernel, by decide +kernel⟩, by decide +kernel, by decide +kernel⟩
set_option maxRecDepth 100000 in
theorem tk_X10_put_0 : zTok zM (zM 71).1.cls (zM 71).1.name (zM 71).2.1 (zM 71).2.2.2.2.1 tb_X10_put := zTok_of [229, 264, 266, 0, 36, 267, 576, 280, 281, 44, 282, 287, 289, 1, 36, 290, 585, 299, 300, 44, 301, 287, 289, 1, 36, 290, 586, 587, 588, 44, 589] [] (by decide +kernel) (by decide +kernel) (by decide +kernel) (by decide +kernel) (by decide +kernel) (by decide +kernel)
theorem ok_X10_put : zMok zM 71 := ⟨tk_X10_put_0, by decide +kernel, ⟨by decide +kernel, by decide +kernel⟩, by decide +kernel, by decide +kernel⟩
set_option maxRecDepth 100000 in
theorem tk_X10_cell_0 : zTok zM (zM 72).1.cls (zM 72).1.name (zM 72).2.1 (zM 72).2.2.2.2.1 tb_X10_cell := zTok_of [229, 264, 266, 0, 36, 267, 268, 269, 36, 270, 528, 594, 276, 277, 44, 278, 229, 229, 528, 585, 299, 300, 44, 301, 229, 528, 435, 295, 296, 44, 297] [] (by decide +kernel) (by decide +kernel) (by decide +kernel) (by decide +kernel) (by decide +kernel) (by decide +kernel)
theorem ok_X10_cell : zMok zM 72 := ⟨tk_X10_cell_0, by decide +kernel, ⟨by decide +kernel, by decide +kernel⟩, by decide +kernel, by decide +kernel⟩
set_option maxRecDepth 100000 in
theorem tk_X10_copy_0 : zTok zM (zM 73).1.cls (zM 73).1.name (zM 73).2.1 (zM 73).2.2.2.2.1 tb_X10_copy_0 := zTok_of [229, 264, 266, 0, 36, 267, 264, 266, 0, 36, 267, 576, 280, 281, 44, 282, 576, 280, 281, 44, 282, 287, 289, 1, 36, 290, 212, 212, 287, 289, 1, 36, 290, 599, 284, 285, 44, 286] [] (by decide +kernel) (by decide +kernel) (by decide +kernel) (by decide +kernel) (by decide +kernel) (by decide +kernel)
set_option maxRecDepth 100000 in
theorem tk_X10_copy_1 : zTok zM (zM 73).1.cls (zM 73).1.name (zM 73).2.1 (zM 73).2.2.2.2.1 tb_X10_copy_1 := zTok_of [599, 284, 285, 44, 286, 287, 289, 1, 36, 290, 215, 215, 600, 483, 482, 49] [] (by decide +kernel) (by decide +kernel) (by decide +kernel) (by decide +kernel) (by decide +kernel) (by decide +kernel)
theorem ok_X10_copy : zMok zM 73 := ⟨zTok_app (tk_X10_copy_0) tk_X10_copy_1, by decide +kernel, ⟨by decide +kernel, by decide +kernel⟩, by decide +kernel, by decide +kernel⟩
set_option maxRecDepth 100000 in
theorem tk_X10_tell_0 : zTok zM (zM 74).1.cls (zM 74).1.name (zM 74).2.1 (zM 74).2.2.2.2.1 tb_X10_tell := zTok_of [223, 379, 380, 381, 37, 382, 228, 605, 608, 609, 610, 47, 611, 606, 629, 605, 608, 617, 618, 48, 619, 606, 629, 605, 606, 607, 46, 629] [] (by decide +kernel) (by decide +kernel) (by decide +kernel) (by decide +kernel) (by decide +kernel) (by decide +kernel)
theorem ok_X10_tell : zMok zM 74 := ⟨tk_X10_tell_0, by decide +kernel, ⟨by decide +kernel, by decide +kernel⟩, by decide +kernel, by decide +kernel⟩
set_option maxRecDepth 100000 in
theorem tk_X10_whisper_0 : zTok zM (zM 75).1.cls (zM 75).1.name (zM 75).2.1 (zM 75).2.2.2.2.1 tb_X10_whisper := zTok_of [223, 379, 380, 381, 37, 382, 228, 635, 638, 639, 636, 46, 643, 635, 638, 640, 641, 48, 642, 636, 643, 635, 636, 637, 46, 643] [] (by decide +kernel) (by decide +kernel) (by decide +kernel) (by decide +kernel) (by decide +kernel) (by decide +kernel)
theorem ok_X10_whisper : zMok zM 75 := ⟨tk_X10_whisper_0, by decide +kernel, ⟨by decide +kernel, by decide +kernel⟩, by decide +kernel, by decide +kernel⟩
set_option maxRecDepth 100000 in
theorem tk_X10_as_0 : zTok zM (zM 76).1.cls (zM 76).1.name (zM 76).2.1 (zM 76).2.2.2.2.1 tb_X10_as := zTok_of [229, 223, 379, 380, 381, 37, 382, 268, 269, 36, 270, 648, 649, 36, 650, 287, 289, 1, 36, 290] [] (by decide +kernel) (by decide +kernel) (by decide +kernel) (by decide +kernel) (by decide +kernel) (by decide +kernel)
theorem ok_X10_as : zMok zM 76 := ⟨tk_X10_as_0, by decide +kernel, ⟨by decide +kernel, by decide +kernel⟩, by decide +kernel, by decide +kernel⟩
set_option maxRecDepth 100000 in
theorem tk_X10_trace_0 : zTok zM (zM 77).1.cls (zM 77).1.name (zM 77).2.1 (zM 77).2.2.2.2.1 tb_X10_trace := zTok_of [228, 116] [] (by decide +kernel) (by decide +kernel) (by decide +kernel) (by decide +kernel) (by decide +kernel) (by decide +kernel)
theorem ok_X10_trace : zMok zM 77 := ⟨tk_X10_trace_0, by decide +kernel, ⟨by decide +kernel, by decide +kernel⟩, by decide +kernel, by decide +kernel⟩
set_option maxRecDepth 100000 in
theorem tk_X10_fault_0 : zTok zM (zM 78).1.cls (zM 78).1.name (zM 78).2.1 (zM 78).2.2.2.2.1 tb_X10_fault := zTok_of [229] [] (by decide +kernel) (by decide +kernel) (by decide +kernel) (by decide +kernel) (by decide +kernel) (by decide +kernel)
theorem ok_X10_fault : zMok zM 78 := ⟨tk_X10_fault_0, by decide +kernel, ⟨by decide +kernel, by decide +kernel⟩, by decide +kernel, by decide +kernel⟩
set_option maxRecDepth 100000 in
theorem tk_X10_many_0 : zTok zM (zM 79).1.cls (zM 79).1.name (zM 79).2.1 (zM 79).2.2.2.2.1 tb_X10_many := zTok_of [223, 73, 223, 70, 224, 225, 226, 90] [] (by decide +kernel) (by decide +kernel) (by decide +kernel) (by decide +kernel) (by decide +kernel) (by decide +kernel)
theorem ok_X10_many : zMok zM 79 := ⟨tk_X10_many_0, by decide +kernel, ⟨by decide +kernel, by decide +kernel⟩, by decide +kernel, by decide +kernel⟩
set_option maxRecDepth 100000 in
theorem tk_X10_sheetAt_0 : zTok zM (zM 80).1.cls (zM 80).1.name (zM 80).2.1 (zM 80).2.2.2.2.1 tb_X10_sheetAt := zTok_of [268, 269, 36, 270, 227] [] (by decide +kernel) (by decide +kernel) (by decide +kernel) (by decide +kernel) (by decide +kernel) (by decide +kernel)
theorem ok_X10_sheetAt : zMok zM 80 := ⟨tk_X10_sheetAt_0, by decide +kernel, ⟨by decide +kernel, by decide +kernel⟩, by decide +kernel, by decide +kernel⟩
set_option maxRecDepth 100000 in
theorem tk_X10_failing_0 : zTok zM (zM 81).1.cls (zM 81).1.name (zM 81).2.1 (zM 81).2.2.2.2.1 tb_X10_failing := zTok_of [229] [] (by decide +kernel) (by decide +kernel) (by decide +kernel) (by decide +kernel) (by decide +kernel) (by decide +kernel)
theorem ok_X10_failing : zMok zM 81 := ⟨tk_X10_failing_0, by decide +kernel, ⟨by decide +kernel, by decide +kernel⟩, by decide +kernel, by decide +kernel⟩
set_option maxRecDepth 100000 in
theorem tk_X10_isWithin_0 : zTok zM (zM 82).1.cls (zM 82).1.name (zM 82).2.1 (zM 82).2.2.2.2.1 tb_X10_isWithin := zTok_of [] [] (by decide +kernel) (by decide +kernel) (by decide +kernel) (by decide +kernel) (by decide +kernel) (by decide +kernel)
theorem ok_X10_isWithin : zMok zM 82 := ⟨tk_X10_isWithin_0, by decide +kernel, ⟨by decide +kernel, by decide +kernel⟩, by decide +kernel, by decide +kernel⟩
set_option maxRecDepth 100000 in
theorem tk_X10_has_0 : zTok zM (zM 83).1.cls (zM 83).1.name (zM 83).2.1 (zM 83).2.2.2.2.1 tb_X10_has := zTok_of [] [] (by decide +kernel) (by decide +kernel) (by decide +kernel) (by decide +kernel) (by decide +kernel) (by decide +kernel)
theorem ok_X10_has : zMok zM 83 := ⟨tk_X10_has_0, by decide +kernel, ⟨by decide +kernel, by decide +kernel⟩, by decide +kernel, by decide +kernel⟩
set_option maxRecDepth 100000 in
theorem tk_X10_isOfKind_0 : zTok zM (zM 84).1.cls (zM 84).1.name (zM 84).2.1 (zM 84).2.2.2.2.1 tb_X10_isOfKind := zTok_of [651, 651, 651, 652, 652, 652] [1034] (by decide +kernel) (by decide +kernel) (by decide +kernel) (by decide +kernel) (by decide +kernel) (by decide +kernel)
theorem ok_X10_isOfKind : zMok zM 84 := ⟨tk_X10_isOfKind_0, by decide +kernel, ⟨by decide +kernel, by decide +kernel⟩, by decide +kernel, by decide +kernel⟩
set_option maxRecDepth 100000 in
theorem tk_X10_newNights_0 : zTok zM (zM 85).1.cls (zM 85).1.name (zM 85).2.1 (zM 85).2.2.2.2.1 tb_X10_newNights := zTok_of [170, 171, 42, 172, 120, 120, 121, 40, 122, 123, 40, 124] [173] (by decide +kernel) (by decide +kernel) (by decide +kernel) (by decide +kernel) (by decide +kernel) (by decide +kernel)
theorem ok_X10_newNights : zMok zM 85 := ⟨tk_X10_newNights_0, by decide +kernel, ⟨by decide +kernel, by decide +kernel⟩, by decide +kernel, by decide +kernel⟩
set_option maxRecDepth 100000 in
theorem tk_X11_init_0 : zTok zM (zM 86).1.cls (zM 86).1.name (zM 86).2.1 (zM 86).2.2.2.2.1 tb_X11_init_0 := zTok_of [670, 58, 59, 106, 674, 106, 675, 106, 676, 106, 677, 106, 678, 106, 684, 106, 685, 106, 686, 106, 687] [] (by decide +kernel) (by decide +kernel) (by decide +kernel) (by decide +kernel) (by decide +kernel) (by decide +kernel)
set_option maxRecDepth 100000 in
theorem tk_X11_init_1 : zTok zM (zM 86).1.cls (zM 86).1.name (zM 86).2.1 (zM 86).2.2.2.2.1 tb_X11_init_1 := zTok_of [106, 688, 106, 695, 106, 696, 106, 698, 106, 699, 106, 700, 106, 701, 106, 702, 106, 703, 106, 704] [] (by decide +kernel) (by decide +kernel) (by decide +kernel) (by decide +kernel) (by decide +kernel) (by decide +kernel)
set_option maxRecDepth 100000 in
theorem tk_X11_init_2 : zTok zM (zM 86).1.cls (zM 86).1.name (zM 86).2.1 (zM 86).2.2.2.2.1 tb_X11_init_2 := zTok_of [106, 706, 106, 707, 106, 708, 106, 709, 106, 710, 106, 711, 106, 712, 709] [] (by decide +kernel) (by decide +kernel) (by decide +kernel) (by decide +kernel) (by decide +kernel) (by decide +kernel)
theorem ok_X11_init : zMok zM 86 := ⟨zTok_app (zTok_app (tk_X11_init_0) tk_X11_init_1) tk_X11_init_2, by decide +kernel, ⟨by decide +kernel, by decide +kernel⟩, by decide +kernel, by decide +kernel⟩
set_option maxRecDepth 100000 in
theorem tk_X11_in_0 : zTok zM (zM 87).1.cls (zM 87).1.name (zM 87).2.1 (zM 87).2.2.2.2.1 tb_X11_in := zTok_of [] [] (by decide +kernel) (by decide +kernel) (by decide +kernel) (by decide +kernel) (by decide +kernel) (by decide +kernel)
theorem ok_X11_in : zMok zM 87 := ⟨tk_X11_in_0, by decide +kernel, ⟨by decide +kernel, by decide +kernel⟩, by decide +kernel, by decide +kernel⟩
set_option maxRecDepth 100000 in
theorem tk_X11_lost_0 : zTok zM (zM 88).1.cls (zM 88).1.name (zM 88).2.1 (zM 88).2.2.2.2.1 tb_X11_lost := zTok_of [950] [] (by decide +kernel) (by decide +kernel) (by decide +kernel) (by decide +kernel) (by decide +kernel) (by decide +kernel)
theorem ok_X11_lost : zMok zM 88 := ⟨tk_X11_lost_0, by decide +kernel, ⟨by decide +kernel, by decide +kernel⟩, by decide +kernel, by decide +kernel⟩
set_option maxRecDepth 100000 in
theorem tk_X11_isIn_0 : zTok zM (zM 89).1.cls (zM 89).1.name (zM 89).2.1 (zM 89).2.2.2.2.1 tb_X11_isIn := zTok_of [] [] (by decide +kernel) (by decide +kernel) (by decide +kernel) (by decide +kernel) (by decide +kernel) (by decide +kernel)
theorem ok_X11_isIn : zMok zM 89 := ⟨tk_X11_isIn_0, by decide +kernel, ⟨by decide +kernel, by decide +kernel⟩, by decide +kernel, by decide +kernel⟩
set_option maxRecDepth 100000 in
theorem tk_X11_bits_0 : zTok zM (zM 90).1.cls (zM 90).1.name (zM 90).2.1 (zM 90).2.2.2.2.1 tb_X11_bits := zTok_of [] [] (by decide +kernel) (by decide +kernel) (by decide +kernel) (by decide +kernel) (by decide +kernel) (by decide +kernel)
theorem ok_X11_bits : zMok zM 90 := ⟨tk_X11_bits_0, by decide +kernel, ⟨by decide +kernel, by decide +kernel⟩, by decide +kernel, by decide +kernel⟩
set_option maxRecDepth 100000 in
theorem tk_X11_told_0 : zTok zM (zM 91).1.cls (zM 91).1.name (zM 91).2.1 (zM 91).2.2.2.2.1 tb_X11_told := zTok_of [] [] (by decide +kernel) (by decide +kernel) (by decide +kernel) (by decide +kernel) (by decide +kernel) (by decide +kernel)
theorem ok_X11_told : zMok zM 91 := ⟨tk_X11_told_0, by decide +kernel, ⟨by decide +kernel, by decide +kernel⟩, by decide +kernel, by decide +kernel⟩
set_option maxRecDepth 100000 in
theorem tk_X11_refused_0 : zTok zM (zM 92).1.cls (zM 92).1.name (zM 92).2.1 (zM 92).2.2.2.2.1 tb_X11_refused := zTok_of [671] [] (by decide +kernel) (by decide +kernel) (by decide +kernel) (by decide +kernel) (by decide +kernel) (by decide +kernel)
theorem ok_X11_refused : zMok zM 92 := ⟨tk_X11_refused_0, by decide +kernel, ⟨by decide +kernel, by decide +kernel⟩, by decide +kernel, by decide +kernel⟩
set_option maxRecDepth 100000 in
theorem tk_X11_failed_0 : zTok zM (zM 93).1.cls (zM 93).1.name (zM 93).2.1 (zM 93).2.2.2.2.1 tb_X11_failed := zTok_of [671] [] (by decide +kernel) (by decide +kernel) (by decide +kernel) (by decide +kernel) (by decide +kernel) (by decide +kernel)
theorem ok_X11_failed : zMok zM 93 := ⟨tk_X11_failed_0, by decide +kernel, ⟨by decide +kernel, by decide +kernel⟩, by decide +kernel, by decide +kernel⟩
set_option maxRecDepth 100000 in
theorem tk_X11_failedLong_0 : zTok zM (zM 94).1.cls (zM 94).1.name (zM 94).2.1 (zM 94).2.2.2.2.1 tb_X11_failedLong := zTok_of [671, 947, 948, 45, 949] [] (by decide +kernel) (by decide +kernel) (by decide +kernel) (by decide +kernel) (by decide +kernel) (by decide +kernel)
theorem ok_X11_failedLong : zMok zM 94 := ⟨tk_X11_failedLong_0, by decide +kernel, ⟨by decide +kernel, by decide +kernel⟩, by decide +kernel, by decide +kernel⟩
set_option maxRecDepth 100000 in
theorem tk_X11_noTale_0 : zTok zM (zM 95).1.cls (zM 95).1.name (zM 95).2.1 (zM 95).2.2.2.2.1 tb_X11_noTale := zTok_of [673, 809, 810, 45, 811] [] (by decide +kernel) (by decide +kernel) (by decide +kernel) (by decide +kernel) (by decide +kernel) (by decide +kernel)
theorem ok_X11_noTale : zMok zM 95 := ⟨tk_X11_noTale_0, by decide +kernel, ⟨by decide +kernel, by decide +kernel⟩, by decide +kernel, by decide +kernel⟩
set_option maxRecDepth 100000 in
theorem tk_X11_codeAt_0 : zTok zM (zM 96).1.cls (zM 96).1.name (zM 96).2.1 (zM 96).2.2.2.2.1 tb_X11_codeAt := zTok_of [681, 711, 681] [] (by decide +kernel) (by decide +kernel) (by decide +kernel) (by decide +kernel) (by decide +kernel) (by decide +kernel)
theorem ok_X11_codeAt : zMok zM 96 := ⟨tk_X11_codeAt_0, by decide +kernel, ⟨by decide +kernel, by decide +kernel⟩, by decide +kernel, by decide +kernel⟩
set_option maxRecDepth 100000 in
theorem tk_X11_figure_0 : zTok zM (zM 97).1.cls (zM 97).1.name (zM 97).2.1 (zM 97).2.2.2.2.1 tb_X11_figure := zTok_of [832, 834, 14, 45, 835, 809, 810, 45, 811, 681, 681] [] (by decide +kernel) (by decide +kernel) (by decide +kernel) (by decide +kernel) (by decide +kernel) (by decide +kernel)
theorem ok_X11_figure : zMok zM 97 := ⟨tk_X11_figure_0, by decide +kernel, ⟨by decide +kernel, by decide +kernel⟩, by decide +kernel, by decide +kernel⟩
set_option maxRecDepth 100000 in
theorem tk_X11_readsTale_0 : zTok zM (zM 98).1.cls (zM 98).1.name (zM 98).2.1 (zM 98).2.2.2.2.1 tb_X11_readsTale_0 := zTok_of [683, 832, 834, 14, 45, 835, 681, 681, 832, 834, 14, 45, 835, 681, 681] [] (by decide +kernel) (by decide +kernel) (by decide +kernel) (by decide +kernel) (by decide +kernel) (by decide +kernel)
set_option maxRecDepth 100000 in
theorem tk_X11_readsTale_1 : zTok zM (zM 98).1.cls (zM 98).1.name (zM 98).2.1 (zM 98).2.2.2.2.1 tb_X11_readsTale_1 := zTok_of [836, 838, 15, 45, 839, 836, 838, 15, 45, 839, 836, 838, 15, 45, 839, 836, 838, 15, 45, 839] [] (by decide +kernel) (by decide +kernel) (by decide +kernel) (by decide +kernel) (by decide +kernel) (by decide +kernel)
set_option maxRecDepth 100000 in
theorem tk_X11_readsTale_2 : zTok zM (zM 98).1.cls (zM 98).1.name (zM 98).2.1 (zM 98).2.2.2.2.1 tb_X11_readsTale_2 := zTok_of [684, 683, 685, 683, 686, 683, 687, 683, 688] [] (by decide +kernel) (by decide +kernel) (by decide +kernel) (by decide +kernel) (by decide +kernel) (by decide +kernel)
set_option maxRecDepth 100000 in
theorem tk_X11_readsTale_3 : zTok zM (zM 98).1.cls (zM 98).1.name (zM 98).2.1 (zM 98).2.2.2.2.1 tb_X11_readsTale_3 := zTok_of [683, 683, 683] [] (by decide +kernel) (by decide +kernel) (by decide +kernel) (by decide +kernel) (by decide +kernel) (by decide +kernel)
theorem ok_X11_readsTale : zMok zM 98 := ⟨zTok_app (zTok_app (zTok_app (tk_X11_readsTale_0) tk_X11_readsTale_1) tk_X11_readsTale_2) tk_X11_readsTale_3, by decide +kernel, ⟨by decide +kernel, by decide +kernel⟩, by decide +kernel, by decide +kernel⟩
set_option maxRecDepth 100000 in
theorem tk_X11_readsForest_0 : zTok zM (zM 99).1.cls (zM 99).1.name (zM 99).2.1 (zM 99).2.2.2.2.1 tb_X11_readsForest_0 := zTok_of [681, 683, 832, 834, 14, 45, 835, 681, 681, 836, 838, 15, 45, 839, 682, 682] [] (by decide +kernel) (by decide +kernel) (by decide +kernel) (by decide +kernel) (by decide +kernel) (by decide +kernel)
set_option maxRecDepth 100000 in
theorem tk_X11_readsForest_1 : zTok zM (zM 99).1.cls (zM 99).1.name (zM 99).2.1 (zM 99).2.2.2.2.1 tb_X11_readsForest_1 := zTok_of [683, 681, 840, 842, 16, 45, 843] [] (by decide +kernel) (by decide +kernel) (by decide +kernel) (by decide +kernel) (by decide +kernel) (by decide +kernel)
theorem ok_X11_readsForest : zMok zM 99 := ⟨zTok_app (tk_X11_readsForest_0) tk_X11_readsForest_1, by decide +kernel, ⟨by decide +kernel, by decide +kernel⟩, by decide +kernel, by decide +kernel⟩
set_option maxRecDepth 100000 in
theorem tk_X11_cellsBarred_0 : zTok zM (zM 100).1.cls (zM 100).1.name (zM 100).2.1 (zM 100).2.2.2.2.1 tb_X11_cellsBarred_0 := zTok_of [709, 710, 821, 823, 12, 45, 824, 709, 821, 823, 12, 45, 824, 821, 823, 12, 45, 824, 709, 825, 826, 45, 827] [] (by decide +kernel) (by decide +kernel) (by decide +kernel) (by decide +kernel) (by decide +kernel) (by decide +kernel)
set_option maxRecDepth 100000 in
theorem tk_X11_cellsBarred_1 : zTok zM (zM 100).1.cls (zM 100).1.name (zM 100).2.1 (zM 100).2.2.2.2.1 tb_X11_cellsBarred_1 := zTok_of [821, 823, 12, 45, 824] [] (by decide +kernel) (by decide +kernel) (by decide +kernel) (by decide +kernel) (by decide +kernel) (by decide +kernel)
theorem ok_X11_cellsBarred : zMok zM 100 := ⟨zTok_app (tk_X11_cellsBarred_0) tk_X11_cellsBarred_1, by decide +kernel, ⟨by decide +kernel, by decide +kernel⟩, by decide +kernel, by decide +kernel⟩
set_option maxRecDepth 100000 in
theorem tk_X11_forest_0 : zTok zM (zM 101).1.cls (zM 101).1.name (zM 101).2.1 (zM 101).2.2.2.2.1 tb_X11_forest_0 := zTok_of [805, 806, 45, 807, 812, 814, 10, 45, 815, 816, 809, 810, 45, 811, 812, 814, 10, 45, 815, 817, 819, 11, 45, 820, 828, 830, 13, 45, 831] [] (by decide +kernel) (by decide +kernel) (by decide +kernel) (by decide +kernel) (by decide +kernel) (by decide +kernel)
set_option maxRecDepth 100000 in
theorem tk_X11_forest_1 : zTok zM (zM 101).1.cls (zM 101).1.name (zM 101).2.1 (zM 101).2.2.2.2.1 tb_X11_forest_1 := zTok_of [681, 812, 814, 10, 45, 815, 682, 672, 683, 673, 673, 674, 684, 675, 685, 676, 686] [] (by decide +kernel) (by decide +kernel) (by decide +kernel) (by decide +kernel) (by decide +kernel) (by decide +kernel)
set_option maxRecDepth 100000 in
theorem tk_X11_forest_2 : zTok zM (zM 101).1.cls (zM 101).1.name (zM 101).2.1 (zM 101).2.2.2.2.1 tb_X11_forest_2 := zTok_of [677, 687, 678, 688, 679, 680, 705, 673, 812, 814, 10, 45, 815] [] (by decide +kernel) (by decide +kernel) (by decide +kernel) (by decide +kernel) (by decide +kernel) (by decide +kernel)
theorem ok_X11_forest : zMok zM 101 := ⟨zTok_app (zTok_app (tk_X11_forest_0) tk_X11_forest_1) tk_X11_forest_2, by decide +kernel, ⟨by decide +kernel, by decide +kernel⟩, by decide +kernel, by decide +kernel⟩
