set_option maxRecDepth 100000 in
theorem tk_X10_sheet_0 : zTok zM (zM 68).1.cls (zM 68).1.name (zM 68).2.1 (zM 68).2.2.2.2.1 tb_X10_sheet := zTok_of [228, 263, 265, 0, 35, 266, 267, 268, 35, 269, 286, 288, 1, 35, 289, 558, 559, 560, 43, 561] [] (by decide +kernel) (by decide +kernel) (by decide +kernel) (by decide +kernel) (by decide +kernel) (by decide +kernel)
theorem ok_X10_sheet : zMok zM 68 := ⟨tk_X10_sheet_0, by decide +kernel, ⟨by decide +kernel, by decide +kernel⟩, by decide +kernel, by decide +kernel⟩
set_option maxRecDepth 100000 in
theorem tk_X10_lose_0 : zTok zM (zM 69).1.cls (zM 69).1.name (zM 69).2.1 (zM 69).2.2.2.2.1 tb_X10_lose := zTok_of [263, 265, 0, 35, 266, 571, 279, 280, 43, 281, 572, 573, 574, 43, 575] [] (by decide +kernel) (by decide +kernel) (by decide +kernel) (by decide +kernel) (by decide +kernel) (by decide +kernel)
theorem ok_X10_lose : zMok zM 69 := ⟨tk_X10_lose_0, by decide +kernel, ⟨by decide +kernel, by decide +kernel⟩, by decide +kernel, by decide +kernel⟩
set_option maxRecDepth 100000 in
theorem tk_X10_put_0 : zTok zM (zM 70).1.cls (zM 70).1.name (zM 70).2.1 (zM 70).2.2.2.2.1 tb_X10_put := zTok_of [228, 263, 265, 0, 35, 266, 571, 279, 280, 43, 281, 286, 288, 1, 35, 289, 580, 298, 299, 43, 300, 286, 288, 1, 35, 289, 581, 582, 583, 43, 584] [] (by decide +kernel) (by decide +kernel) (by decide +kernel) (by decide +kernel) (by decide +kernel) (by decide +kernel)
theorem ok_X10_put : zMok zM 70 := ⟨tk_X10_put_0, by decide +kernel, ⟨by decide +kernel, by decide +kernel⟩, by decide +kernel, by decide +kernel⟩
set_option maxRecDepth 100000 in
theorem tk_X10_cell_0 : zTok zM (zM 71).1.cls (zM 71).1.name (zM 71).2.1 (zM 71).2.2.2.2.1 tb_X10_cell := zTok_of [228, 263, 265, 0, 35, 266, 267, 268, 35, 269, 523, 589, 275, 276, 43, 277, 228, 228, 523, 580, 298, 299, 43, 300, 228, 523, 434, 294, 295, 43, 296] [] (by decide +kernel) (by decide +kernel) (by decide +kernel) (by decide +kernel) (by decide +kernel) (by decide +kernel)
theorem ok_X10_cell : zMok zM 71 := ⟨tk_X10_cell_0, by decide +kernel, ⟨by decide +kernel, by decide +kernel⟩, by decide +kernel, by decide +kernel⟩
set_option maxRecDepth 100000 in
theorem tk_X10_copy_0 : zTok zM (zM 72).1.cls (zM 72).1.name (zM 72).2.1 (zM 72).2.2.2.2.1 tb_X10_copy_0 := zTok_of [228, 263, 265, 0, 35, 266, 263, 265, 0, 35, 266, 571, 279, 280, 43, 281, 571, 279, 280, 43, 281, 286, 288, 1, 35, 289, 211, 211, 286, 288, 1, 35, 289, 594, 283, 284, 43, 285] [] (by decide +kernel) (by decide +kernel) (by decide +kernel) (by decide +kernel) (by decide +kernel) (by decide +kernel)
set_option maxRecDepth 100000 in
theorem tk_X10_copy_1 : zTok zM (zM 72).1.cls (zM 72).1.name (zM 72).2.1 (zM 72).2.2.2.2.1 tb_X10_copy_1 := zTok_of [594, 283, 284, 43, 285, 286, 288, 1, 35, 289, 214, 214, 595, 482, 481, 48] [] (by decide +kernel) (by decide +kernel) (by decide +kernel) (by decide +kernel) (by decide +kernel) (by decide +kernel)
theorem ok_X10_copy : zMok zM 72 := ⟨zTok_app (tk_X10_copy_0) tk_X10_copy_1, by decide +kernel, ⟨by decide +kernel, by decide +kernel⟩, by decide +kernel, by decide +kernel⟩
set_option maxRecDepth 100000 in
theorem tk_X10_tell_0 : zTok zM (zM 73).1.cls (zM 73).1.name (zM 73).2.1 (zM 73).2.2.2.2.1 tb_X10_tell := zTok_of [222, 378, 379, 380, 36, 381, 227, 600, 603, 604, 605, 46, 606, 601, 624, 600, 603, 612, 613, 47, 614, 601, 624, 600, 601, 602, 45, 624] [] (by decide +kernel) (by decide +kernel) (by decide +kernel) (by decide +kernel) (by decide +kernel) (by decide +kernel)
theorem ok_X10_tell : zMok zM 73 := ⟨tk_X10_tell_0, by decide +kernel, ⟨by decide +kernel, by decide +kernel⟩, by decide +kernel, by decide +kernel⟩
set_option maxRecDepth 100000 in
theorem tk_X10_whisper_0 : zTok zM (zM 74).1.cls (zM 74).1.name (zM 74).2.1 (zM 74).2.2.2.2.1 tb_X10_whisper := zTok_of [222, 378, 379, 380, 36, 381, 227, 630, 633, 634, 631, 45, 638, 630, 633, 635, 636, 47, 637, 631, 638, 630, 631, 632, 45, 638] [] (by decide +kernel) (by decide +kernel) (by decide +kernel) (by decide +kernel) (by decide +kernel) (by decide +kernel)
theorem ok_X10_whisper : zMok zM 74 := ⟨tk_X10_whisper_0, by decide +kernel, ⟨by decide +kernel, by decide +kernel⟩, by decide +kernel, by decide +kernel⟩
set_option maxRecDepth 100000 in
theorem tk_X10_as_0 : zTok zM (zM 75).1.cls (zM 75).1.name (zM 75).2.1 (zM 75).2.2.2.2.1 tb_X10_as := zTok_of [228, 222, 378, 379, 380, 36, 381, 267, 268, 35, 269, 643, 644, 35, 645, 286, 288, 1, 35, 289] [] (by decide +kernel) (by decide +kernel) (by decide +kernel) (by decide +kernel) (by decide +kernel) (by decide +kernel)
theorem ok_X10_as : zMok zM 75 := ⟨tk_X10_as_0, by decide +kernel, ⟨by decide +kernel, by decide +kernel⟩, by decide +kernel, by decide +kernel⟩
set_option maxRecDepth 100000 in
theorem tk_X10_trace_0 : zTok zM (zM 76).1.cls (zM 76).1.name (zM 76).2.1 (zM 76).2.2.2.2.1 tb_X10_trace := zTok_of [227, 115] [] (by decide +kernel) (by decide +kernel) (by decide +kernel) (by decide +kernel) (by decide +kernel) (by decide +kernel)
theorem ok_X10_trace : zMok zM 76 := ⟨tk_X10_trace_0, by decide +kernel, ⟨by decide +kernel, by decide +kernel⟩, by decide +kernel, by decide +kernel⟩
set_option maxRecDepth 100000 in
theorem tk_X10_fault_0 : zTok zM (zM 77).1.cls (zM 77).1.name (zM 77).2.1 (zM 77).2.2.2.2.1 tb_X10_fault := zTok_of [228] [] (by decide +kernel) (by decide +kernel) (by decide +kernel) (by decide +kernel) (by decide +kernel) (by decide +kernel)
theorem ok_X10_fault : zMok zM 77 := ⟨tk_X10_fault_0, by decide +kernel, ⟨by decide +kernel, by decide +kernel⟩, by decide +kernel, by decide +kernel⟩
set_option maxRecDepth 100000 in
theorem tk_X10_many_0 : zTok zM (zM 78).1.cls (zM 78).1.name (zM 78).2.1 (zM 78).2.2.2.2.1 tb_X10_many := zTok_of [222, 72, 222, 69, 223, 224, 225, 89] [] (by decide +kernel) (by decide +kernel) (by decide +kernel) (by decide +kernel) (by decide +kernel) (by decide +kernel)
theorem ok_X10_many : zMok zM 78 := ⟨tk_X10_many_0, by decide +kernel, ⟨by decide +kernel, by decide +kernel⟩, by decide +kernel, by decide +kernel⟩
set_option maxRecDepth 100000 in
theorem tk_X10_sheetAt_0 : zTok zM (zM 79).1.cls (zM 79).1.name (zM 79).2.1 (zM 79).2.2.2.2.1 tb_X10_sheetAt := zTok_of [267, 268, 35, 269, 226] [] (by decide +kernel) (by decide +kernel) (by decide +kernel) (by decide +kernel) (by decide +kernel) (by decide +kernel)
theorem ok_X10_sheetAt : zMok zM 79 := ⟨tk_X10_sheetAt_0, by decide +kernel, ⟨by decide +kernel, by decide +kernel⟩, by decide +kernel, by decide +kernel⟩
set_option maxRecDepth 100000 in
theorem tk_X10_failing_0 : zTok zM (zM 80).1.cls (zM 80).1.name (zM 80).2.1 (zM 80).2.2.2.2.1 tb_X10_failing := zTok_of [228] [] (by decide +kernel) (by decide +kernel) (by decide +kernel) (by decide +kernel) (by decide +kernel) (by decide +kernel)
theorem ok_X10_failing : zMok zM 80 := ⟨tk_X10_failing_0, by decide +kernel, ⟨by decide +kernel, by decide +kernel⟩, by decide +kernel, by decide +kernel⟩
set_option maxRecDepth 100000 in
theorem tk_X10_isWithin_0 : zTok zM (zM 81).1.cls (zM 81).1.name (zM 81).2.1 (zM 81).2.2.2.2.1 tb_X10_isWithin := zTok_of [] [] (by decide +kernel) (by decide +kernel) (by decide +kernel) (by decide +kernel) (by decide +kernel) (by decide +kernel)
theorem ok_X10_isWithin : zMok zM 81 := ⟨tk_X10_isWithin_0, by decide +kernel, ⟨by decide +kernel, by decide +kernel⟩, by decide +kernel, by decide +kernel⟩
set_option maxRecDepth 100000 in
theorem tk_X10_has_0 : zTok zM (zM 82).1.cls (zM 82).1.name (zM 82).2.1 (zM 82).2.2.2.2.1 tb_X10_has := zTok_of [] [] (by decide +kernel) (by decide +kernel) (by decide +kernel) (by decide +kernel) (by decide +kernel) (by decide +kernel)
theorem ok_X10_has : zMok zM 82 := ⟨tk_X10_has_0, by decide +kernel, ⟨by decide +kernel, by decide +kernel⟩, by decide +kernel, by decide +kernel⟩
set_option maxRecDepth 100000 in
theorem tk_X10_isOfKind_0 : zTok zM (zM 83).1.cls (zM 83).1.name (zM 83).2.1 (zM 83).2.2.2.2.1 tb_X10_isOfKind := zTok_of [646, 646, 646, 647, 647, 647] [1029] (by decide +kernel) (by decide +kernel) (by decide +kernel) (by decide +kernel) (by decide +kernel) (by decide +kernel)
theorem ok_X10_isOfKind : zMok zM 83 := ⟨tk_X10_isOfKind_0, by decide +kernel, ⟨by decide +kernel, by decide +kernel⟩, by decide +kernel, by decide +kernel⟩
set_option maxRecDepth 100000 in
theorem tk_X10_newNights_0 : zTok zM (zM 84).1.cls (zM 84).1.name (zM 84).2.1 (zM 84).2.2.2.2.1 tb_X10_newNights := zTok_of [169, 170, 41, 171, 119, 119, 120, 39, 121, 122, 39, 123] [172] (by decide +kernel) (by decide +kernel) (by decide +kernel) (by decide +kernel) (by decide +kernel) (by decide +kernel)
theorem ok_X10_newNights : zMok zM 84 := ⟨tk_X10_newNights_0, by decide +kernel, ⟨by decide +kernel, by decide +kernel⟩, by decide +kernel, by decide +kernel⟩
set_option maxRecDepth 100000 in
theorem tk_X11_init_0 : zTok zM (zM 85).1.cls (zM 85).1.name (zM 85).2.1 (zM 85).2.2.2.2.1 tb_X11_init_0 := zTok_of [665, 57, 58, 105, 669, 105, 670, 105, 671, 105, 672, 105, 673, 105, 679, 105, 680, 105, 681, 105, 682] [] (by decide +kernel) (by decide +kernel) (by decide +kernel) (by decide +kernel) (by decide +kernel) (by decide +kernel)
set_option maxRecDepth 100000 in
theorem tk_X11_init_1 : zTok zM (zM 85).1.cls (zM 85).1.name (zM 85).2.1 (zM 85).2.2.2.2.1 tb_X11_init_1 := zTok_of [105, 683, 105, 690, 105, 691, 105, 693, 105, 694, 105, 695, 105, 696, 105, 697, 105, 698, 105, 699] [] (by decide +kernel) (by decide +kernel) (by decide +kernel) (by decide +kernel) (by decide +kernel) (by decide +kernel)
set_option maxRecDepth 100000 in
theorem tk_X11_init_2 : zTok zM (zM 85).1.cls (zM 85).1.name (zM 85).2.1 (zM 85).2.2.2.2.1 tb_X11_init_2 := zTok_of [105, 701, 105, 702, 105, 703, 105, 704, 105, 705, 105, 706, 105, 707, 704] [] (by decide +kernel) (by decide +kernel) (by decide +kernel) (by decide +kernel) (by decide +kernel) (by decide +kernel)
theorem ok_X11_init : zMok zM 85 := ⟨zTok_app (zTok_app (tk_X11_init_0) tk_X11_init_1) tk_X11_init_2, by decide +kernel, ⟨by decide +kernel, by decide +kernel⟩, by decide +kernel, by decide +kernel⟩
set_option maxRecDepth 100000 in
theorem tk_X11_in_0 : zTok zM (zM 86).1.cls (zM 86).1.name (zM 86).2.1 (zM 86).2.2.2.2.1 tb_X11_in := zTok_of [] [] (by decide +kernel) (by decide +kernel) (by decide +kernel) (by decide +kernel) (by decide +kernel) (by decide +kernel)
theorem ok_X11_in : zMok zM 86 := ⟨tk_X11_in_0, by decide +kernel, ⟨by decide +kernel, by decide +kernel⟩, by decide +kernel, by decide +kernel⟩
set_option maxRecDepth 100000 in
theorem tk_X11_lost_0 : zTok zM (zM 87).1.cls (zM 87).1.name (zM 87).2.1 (zM 87).2.2.2.2.1 tb_X11_lost := zTok_of [945] [] (by decide +kernel) (by decide +kernel) (by decide +kernel) (by decide +kernel) (by decide +kernel) (by decide +kernel)
theorem ok_X11_lost : zMok zM 87 := ⟨tk_X11_lost_0, by decide +kernel, ⟨by decide +kernel, by decide +kernel⟩, by decide +kernel, by decide +kernel⟩
set_option maxRecDepth 100000 in
theorem tk_X11_isIn_0 : zTok zM (zM 88).1.cls (zM 88).1.name (zM 88).2.1 (zM 88).2.2.2.2.1 tb_X11_isIn := zTok_of [] [] (by decide +kernel) (by decide +kernel) (by decide +kernel) (by decide +kernel) (by decide +kernel) (by decide +kernel)
theorem ok_X11_isIn : zMok zM 88 := ⟨tk_X11_isIn_0, by decide +kernel, ⟨by decide +kernel, by decide +kernel⟩, by decide +kernel, by decide +kernel⟩
set_option maxRecDepth 100000 in
theorem tk_X11_bits_0 : zTok zM (zM 89).1.cls (zM 89).1.name (zM 89).2.1 (zM 89).2.2.2.2.1 tb_X11_bits := zTok_of [] [] (by decide +kernel) (by decide +kernel) (by decide +kernel) (by decide +kernel) (by decide +kernel) (by decide +kernel)
theorem ok_X11_bits : zMok zM 89 := ⟨tk_X11_bits_0, by decide +kernel, ⟨by decide +kernel, by decide +kernel⟩, by decide +kernel, by decide +kernel⟩
set_option maxRecDepth 100000 in
theorem tk_X11_told_0 : zTok zM (zM 90).1.cls (zM 90).1.name (zM 90).2.1 (zM 90).2.2.2.2.1 tb_X11_told := zTok_of [] [] (by decide +kernel) (by decide +kernel) (by decide +kernel) (by decide +kernel) (by decide +kernel) (by decide +kernel)
theorem ok_X11_told : zMok zM 90 := ⟨tk_X11_told_0, by decide +kernel, ⟨by decide +kernel, by decide +kernel⟩, by decide +kernel, by decide +kernel⟩
set_option maxRecDepth 100000 in
theorem tk_X11_refused_0 : zTok zM (zM 91).1.cls (zM 91).1.name (zM 91).2.1 (zM 91).2.2.2.2.1 tb_X11_refused := zTok_of [666] [] (by decide +kernel) (by decide +kernel) (by decide +kernel) (by decide +kernel) (by decide +kernel) (by decide +kernel)
theorem ok_X11_refused : zMok zM 91 := ⟨tk_X11_refused_0, by decide +kernel, ⟨by decide +kernel, by decide +kernel⟩, by decide +kernel, by decide +kernel⟩
set_option maxRecDepth 100000 in
theorem tk_X11_failed_0 : zTok zM (zM 92).1.cls (zM 92).1.name (zM 92).2.1 (zM 92).2.2.2.2.1 tb_X11_failed := zTok_of [666] [] (by decide +kernel) (by decide +kernel) (by decide +kernel) (by decide +kernel) (by decide +kernel) (by decide +kernel)
theorem ok_X11_failed : zMok zM 92 := ⟨tk_X11_failed_0, by decide +kernel, ⟨by decide +kernel, by decide +kernel⟩, by decide +kernel, by decide +kernel⟩
set_option maxRecDepth 100000 in
theorem tk_X11_failedLong_0 : zTok zM (zM 93).1.cls (zM 93).1.name (zM 93).2.1 (zM 93).2.2.2.2.1 tb_X11_failedLong := zTok_of [666, 942, 943, 44, 944] [] (by decide +kernel) (by decide +kernel) (by decide +kernel) (by decide +kernel) (by decide +kernel) (by decide +kernel)
theorem ok_X11_failedLong : zMok zM 93 := ⟨tk_X11_failedLong_0, by decide +kernel, ⟨by decide +kernel, by decide +kernel⟩, by decide +kernel, by decide +kernel⟩
set_option maxRecDepth 100000 in
theorem tk_X11_noTale_0 : zTok zM (zM 94).1.cls (zM 94).1.name (zM 94).2.1 (zM 94).2.2.2.2.1 tb_X11_noTale := zTok_of [668, 804, 805, 44, 806] [] (by decide +kernel) (by decide +kernel) (by decide +kernel) (by decide +kernel) (by decide +kernel) (by decide +kernel)
theorem ok_X11_noTale : zMok zM 94 := ⟨tk_X11_noTale_0, by decide +kernel, ⟨by decide +kernel, by decide +kernel⟩, by decide +kernel, by decide +kernel⟩
set_option maxRecDepth 100000 in
theorem tk_X11_codeAt_0 : zTok zM (zM 95).1.cls (zM 95).1.name (zM 95).2.1 (zM 95).2.2.2.2.1 tb_X11_codeAt := zTok_of [676, 706, 676] [] (by decide +kernel) (by decide +kernel) (by decide +kernel) (by decide +kernel) (by decide +kernel) (by decide +kernel)
theorem ok_X11_codeAt : zMok zM 95 := ⟨tk_X11_codeAt_0, by decide +kernel, ⟨by decide +kernel, by decide +kernel⟩, by decide +kernel, by decide +kernel⟩
set_option maxRecDepth 100000 in
theorem tk_X11_figure_0 : zTok zM (zM 96).1.cls (zM 96).1.name (zM 96).2.1 (zM 96).2.2.2.2.1 tb_X11_figure := zTok_of [827, 829, 13, 44, 830, 804, 805, 44, 806, 676, 676] [] (by decide +kernel) (by decide +kernel) (by decide +kernel) (by decide +kernel) (by decide +kernel) (by decide +kernel)
theorem ok_X11_figure : zMok zM 96 := ⟨tk_X11_figure_0, by decide +kernel, ⟨by decide +kernel, by decide +kernel⟩, by decide +kernel, by decide +kernel⟩
set_option maxRecDepth 100000 in
theorem tk_X11_readsTale_0 : zTok zM (zM 97).1.cls (zM 97).1.name (zM 97).2.1 (zM 97).2.2.2.2.1 tb_X11_readsTale_0 := zTok_of [678, 827, 829, 13, 44, 830, 676, 676, 827, 829, 13, 44, 830, 676, 676] [] (by decide +kernel) (by decide +kernel) (by decide +kernel) (by decide +kernel) (by decide +kernel) (by decide +kernel)
set_option maxRecDepth 100000 in
theorem tk_X11_readsTale_1 : zTok zM (zM 97).1.cls (zM 97).1.name (zM 97).2.1 (zM 97).2.2.2.2.1 tb_X11_readsTale_1 := zTok_of [831, 833, 14, 44, 834, 831, 833, 14, 44, 834, 831, 833, 14, 44, 834, 831, 833, 14, 44, 834] [] (by decide +kernel) (by decide +kernel) (by decide +kernel) (by decide +kernel) (by decide +kernel) (by decide +kernel)
set_option maxRecDepth 100000 in
theorem tk_X11_readsTale_2 : zTok zM (zM 97).1.cls (zM 97).1.name (zM 97).2.1 (zM 97).2.2.2.2.1 tb_X11_readsTale_2 := zTok_of [679, 678, 680, 678, 681, 678, 682, 678, 683] [] (by decide +kernel) (by decide +kernel) (by decide +kernel) (by decide +kernel) (by decide +kernel) (by decide +kernel)
set_option maxRecDepth 100000 in
theorem tk_X11_readsTale_3 : zTok zM (zM 97).1.cls (zM 97).1.name (zM 97).2.1 (zM 97).2.2.2.2.1 tb_X11_readsTale_3 := zTok_of [678, 678, 678] [] (by decide +kernel) (by decide +kernel) (by decide +kernel) (by decide +kernel) (by decide +kernel) (by decide +kernel)
theorem ok_X11_readsTale : zMok zM 97 := ⟨zTok_app (zTok_app (zTok_app (tk_X11_readsTale_0) tk_X11_readsTale_1) tk_X11_readsTale_2) tk_X11_readsTale_3, by decide +kernel, ⟨by decide +kernel, by decide +kernel⟩, by decide +kernel, by decide +kernel⟩
set_option maxRecDepth 100000 in
theorem tk_X11_readsForest_0 : zTok zM (zM 98).1.cls (zM 98).1.name (zM 98).2.1 (zM 98).2.2.2.2.1 tb_X11_readsForest_0 := zTok_of [676, 678, 827, 829, 13, 44, 830, 676, 676, 831, 833, 14, 44, 834, 677, 677] [] (by decide +kernel) (by decide +kernel) (by decide +kernel) (by decide +kernel) (by decide +kernel) (by decide +kernel)
set_option maxRecDepth 100000 in
theorem tk_X11_readsForest_1 : zTok zM (zM 98).1.cls (zM 98).1.name (zM 98).2.1 (zM 98).2.2.2.2.1 tb_X11_readsForest_1 := zTok_of [678, 676, 835, 837, 15, 44, 838] [] (by decide +kernel) (by decide +kernel) (by decide +kernel) (by decide +kernel) (by decide +kernel) (by decide +kernel)
theorem ok_X11_readsForest : zMok zM 98 := ⟨zTok_app (tk_X11_readsForest_0) tk_X11_readsForest_1, by decide +kernel, ⟨by decide +kernel, by decide +kernel⟩, by decide +kernel, by decide +kernel⟩
set_option maxRecDepth 100000 in
theorem tk_X11_cellsBarred_0 : zTok zM (zM 99).1.cls (zM 99).1.name (zM 99).2.1 (zM 99).2.2.2.2.1 tb_X11_cellsBarred_0 := zTok_of [704, 705, 816, 818, 11, 44, 819, 704, 816, 818, 11, 44, 819, 816, 818, 11, 44, 819, 704, 820, 821, 44, 822] [] (by decide +kernel) (by decide +kernel) (by decide +kernel) (by decide +kernel) (by decide +kernel) (by decide +kernel)
set_option maxRecDepth 100000 in
theorem tk_X11_cellsBarred_1 : zTok zM (zM 99).1.cls (zM 99).1.name (zM 99).2.1 (zM 99).2.2.2.2.1 tb_X11_cellsBarred_1 := zTok_of [816, 818, 11, 44, 819] [] (by decide +kernel) (by decide +kernel) (by decide +kernel) (by decide +kernel) (by decide +kernel) (by decide +kernel)
theorem ok_X11_cellsBarred : zMok zM 99 := ⟨zTok_app (tk_X11_cellsBarred_0) tk_X11_cellsBarred_1, by decide +kernel, ⟨by decide +kernel, by decide +kernel⟩, by decide +kernel, by decide +kernel⟩
set_option maxRecDepth 100000 in
theorem tk_X11_forest_0 : zTok zM (zM 100).1.cls (zM 100).1.name (zM 100).2.1 (zM 100).2.2.2.2.1 tb_X11_forest_0 := zTok_of [800, 801, 44, 802, 807, 809, 9, 44, 810, 811, 804, 805, 44, 806, 807, 809, 9, 44, 810, 812, 814, 10, 44, 815, 823, 825, 12, 44, 826] [] (by decide +kernel) (by decide +kernel) (by decide +kernel) (by decide +kernel) (by decide +kernel) (by decide +kernel)
set_option maxRecDepth 100000 in
theorem tk_X11_forest_1 : zTok zM (zM 100).1.cls (zM 100).1.name (zM 100).2.1 (zM 100).2.2.2.2.1 tb_X11_forest_1 := zTok_of [676, 807, 809, 9, 44, 810, 677, 667, 678, 668, 668, 669, 679, 670, 680, 671, 681] [] (by decide +kernel) (by decide +kernel) (by decide +kernel) (by decide +kernel) (by decide +kernel) (by decide +kernel)
set_option maxRecDepth 100000 in
theorem tk_X11_forest_2 : zTok zM (zM 100).1.cls (zM 100).1.name (zM 100).2.1 (zM 100).2.2.2.2.1 tb_X11_forest_2 := zTok_of [672, 682, 673, 683, 674, 675, 700, 668, 807, 809, 9, 44, 810] [] (by decide +kernel) (by decide +kernel) (by decide +kernel) (by decide +kernel) (by decide +kernel) (by decide +kernel)
theorem ok_X11_forest : zMok zM 100 := ⟨zTok_app (zTok_app (tk_X11_forest_0) tk_X11_forest_1) tk_X11_forest_2, by decide +kernel, ⟨by decide +kernel, by decide +kernel⟩, by decide +kernel, by decide +kernel⟩
