set_option maxRecDepth 100000 in
theorem tk_X11_play_0 : zTok zM (zM 120).1.cls (zM 120).1.name (zM 120).2.1 (zM 120).2.2.2.2.1 tb_X11_play_0 := zTok_of [693, 694, 674, 695, 696, 699, 693, 667] [] (by decide +kernel) (by decide +kernel) (by decide +kernel) (by decide +kernel) (by decide +kernel) (by decide +kernel)
set_option maxRecDepth 100000 in
theorem tk_X11_play_1 : zTok zM (zM 120).1.cls (zM 120).1.name (zM 120).2.1 (zM 120).2.2.2.2.1 tb_X11_play_1 := zTok_of [695, 668, 929, 931, 28, 44, 932, 933, 935, 29, 44, 936, 693, 699] [] (by decide +kernel) (by decide +kernel) (by decide +kernel) (by decide +kernel) (by decide +kernel) (by decide +kernel)
set_option maxRecDepth 100000 in
theorem tk_X11_play_2 : zTok zM (zM 120).1.cls (zM 120).1.name (zM 120).2.1 (zM 120).2.2.2.2.1 tb_X11_play_2 := zTok_of [698, 698, 698, 699] [] (by decide +kernel) (by decide +kernel) (by decide +kernel) (by decide +kernel) (by decide +kernel) (by decide +kernel)
theorem ok_X11_play : zMok zM 120 := ⟨zTok_app (zTok_app (tk_X11_play_0) tk_X11_play_1) tk_X11_play_2, by decide +kernel, ⟨by decide +kernel, by decide +kernel⟩, by decide +kernel, by decide +kernel⟩
set_option maxRecDepth 100000 in
theorem tk_X11_game_0 : zTok zM (zM 121).1.cls (zM 121).1.name (zM 121).2.1 (zM 121).2.2.2.2.1 tb_X11_game := zTok_of [901, 804, 805, 44, 806, 668, 925, 927, 27, 44, 928] [] (by decide +kernel) (by decide +kernel) (by decide +kernel) (by decide +kernel) (by decide +kernel) (by decide +kernel)
theorem ok_X11_game : zMok zM 121 := ⟨tk_X11_game_0, by decide +kernel, ⟨by decide +kernel, by decide +kernel⟩, by decide +kernel, by decide +kernel⟩
set_option maxRecDepth 100000 in
theorem tk_X11_porter_0 : zTok zM (zM 122).1.cls (zM 122).1.name (zM 122).2.1 (zM 122).2.2.2.2.1 tb_X11_porter_0 := zTok_of [843, 845, 16, 44, 846, 941, 804, 805, 44, 806, 804, 805, 44, 806, 942, 943, 44, 944, 670, 671, 941] [] (by decide +kernel) (by decide +kernel) (by decide +kernel) (by decide +kernel) (by decide +kernel) (by decide +kernel)
set_option maxRecDepth 100000 in
theorem tk_X11_porter_1 : zTok zM (zM 122).1.cls (zM 122).1.name (zM 122).2.1 (zM 122).2.2.2.2.1 tb_X11_porter_1 := zTok_of [941, 941, 941, 669, 946, 946, 947, 948, 44, 949] [] (by decide +kernel) (by decide +kernel) (by decide +kernel) (by decide +kernel) (by decide +kernel) (by decide +kernel)
theorem ok_X11_porter : zMok zM 122 := ⟨zTok_app (tk_X11_porter_0) tk_X11_porter_1, by decide +kernel, ⟨by decide +kernel, by decide +kernel⟩, by decide +kernel, by decide +kernel⟩
set_option maxRecDepth 100000 in
theorem tk_X11_reading_0 : zTok zM (zM 123).1.cls (zM 123).1.name (zM 123).2.1 (zM 123).2.2.2.2.1 tb_X11_reading_0 := zTok_of [843, 845, 16, 44, 846, 843, 845, 16, 44, 846, 954, 804, 805, 44, 806, 700, 701, 700, 702, 700] [] (by decide +kernel) (by decide +kernel) (by decide +kernel) (by decide +kernel) (by decide +kernel) (by decide +kernel)
set_option maxRecDepth 100000 in
theorem tk_X11_reading_1 : zTok zM (zM 123).1.cls (zM 123).1.name (zM 123).2.1 (zM 123).2.2.2.2.1 tb_X11_reading_1 := zTok_of [703, 700, 700, 700, 700] [] (by decide +kernel) (by decide +kernel) (by decide +kernel) (by decide +kernel) (by decide +kernel) (by decide +kernel)
theorem ok_X11_reading : zMok zM 123 := ⟨zTok_app (tk_X11_reading_0) tk_X11_reading_1, by decide +kernel, ⟨by decide +kernel, by decide +kernel⟩, by decide +kernel, by decide +kernel⟩
set_option maxRecDepth 100000 in
theorem tk_X11_back_0 : zTok zM (zM 124).1.cls (zM 124).1.name (zM 124).2.1 (zM 124).2.2.2.2.1 tb_X11_back := zTok_of [700, 804, 805, 44, 806, 700, 700, 700] [] (by decide +kernel) (by decide +kernel) (by decide +kernel) (by decide +kernel) (by decide +kernel) (by decide +kernel)
theorem ok_X11_back : zMok zM 124 := ⟨tk_X11_back_0, by decide +kernel, ⟨by decide +kernel, by decide +kernel⟩, by decide +kernel, by decide +kernel⟩
set_option maxRecDepth 100000 in
theorem tk_X11_areSo_0 : zTok zM (zM 125).1.cls (zM 125).1.name (zM 125).2.1 (zM 125).2.2.2.2.1 tb_X11_areSo_0 := zTok_of [700, 875, 877, 20, 44, 878, 701, 879, 881, 21, 44, 882, 702, 702, 879, 881, 21, 44, 882, 684, 703] [] (by decide +kernel) (by decide +kernel) (by decide +kernel) (by decide +kernel) (by decide +kernel) (by decide +kernel)
set_option maxRecDepth 100000 in
theorem tk_X11_areSo_1 : zTok zM (zM 125).1.cls (zM 125).1.name (zM 125).2.1 (zM 125).2.2.2.2.1 tb_X11_areSo_1 := zTok_of [] [] (by decide +kernel) (by decide +kernel) (by decide +kernel) (by decide +kernel) (by decide +kernel) (by decide +kernel)
theorem ok_X11_areSo : zMok zM 125 := ⟨zTok_app (tk_X11_areSo_0) tk_X11_areSo_1, by decide +kernel, ⟨by decide +kernel, by decide +kernel⟩, by decide +kernel, by decide +kernel⟩
set_option maxRecDepth 100000 in
theorem tk_X11_fits_0 : zTok zM (zM 126).1.cls (zM 126).1.name (zM 126).2.1 (zM 126).2.2.2.2.1 tb_X11_fits_0 := zTok_of [811, 804, 805, 44, 806, 668, 963, 965, 30, 44, 966] [] (by decide +kernel) (by decide +kernel) (by decide +kernel) (by decide +kernel) (by decide +kernel) (by decide +kernel)
set_option maxRecDepth 100000 in
theorem tk_X11_fits_1 : zTok zM (zM 126).1.cls (zM 126).1.name (zM 126).2.1 (zM 126).2.2.2.2.1 tb_X11_fits_1 := zTok_of [] [] (by decide +kernel) (by decide +kernel) (by decide +kernel) (by decide +kernel) (by decide +kernel) (by decide +kernel)
theorem ok_X11_fits : zMok zM 126 := ⟨zTok_app (tk_X11_fits_0) tk_X11_fits_1, by decide +kernel, ⟨by decide +kernel, by decide +kernel⟩, by decide +kernel, by decide +kernel⟩
set_option maxRecDepth 100000 in
theorem tk_X11_noSheet_0 : zTok zM (zM 127).1.cls (zM 127).1.name (zM 127).2.1 (zM 127).2.2.2.2.1 tb_X11_noSheet := zTok_of [803, 804, 805, 44, 806] [] (by decide +kernel) (by decide +kernel) (by decide +kernel) (by decide +kernel) (by decide +kernel) (by decide +kernel)
theorem ok_X11_noSheet : zMok zM 127 := ⟨tk_X11_noSheet_0, by decide +kernel, ⟨by decide +kernel, by decide +kernel⟩, by decide +kernel, by decide +kernel⟩
set_option maxRecDepth 100000 in
theorem tk_X11_sheet_0 : zTok zM (zM 128).1.cls (zM 128).1.name (zM 128).2.1 (zM 128).2.2.2.2.1 tb_X11_sheet_0 := zTok_of [800, 801, 44, 802, 807, 809, 9, 44, 810, 811, 804, 805, 44, 806, 807, 809, 9, 44, 810, 816, 818, 11, 44, 819, 704, 705] [] (by decide +kernel) (by decide +kernel) (by decide +kernel) (by decide +kernel) (by decide +kernel) (by decide +kernel)
set_option maxRecDepth 100000 in
theorem tk_X11_sheet_1 : zTok zM (zM 128).1.cls (zM 128).1.name (zM 128).2.1 (zM 128).2.2.2.2.1 tb_X11_sheet_1 := zTok_of [706, 807, 809, 9, 44, 810] [] (by decide +kernel) (by decide +kernel) (by decide +kernel) (by decide +kernel) (by decide +kernel) (by decide +kernel)
theorem ok_X11_sheet : zMok zM 128 := ⟨zTok_app (tk_X11_sheet_0) tk_X11_sheet_1, by decide +kernel, ⟨by decide +kernel, by decide +kernel⟩, by decide +kernel, by decide +kernel⟩
set_option maxRecDepth 100000 in
theorem tk_X11_lose_0 : zTok zM (zM 129).1.cls (zM 129).1.name (zM 129).2.1 (zM 129).2.2.2.2.1 tb_X11_lose := zTok_of [800, 801, 44, 802, 704, 704] [] (by decide +kernel) (by decide +kernel) (by decide +kernel) (by decide +kernel) (by decide +kernel) (by decide +kernel)
theorem ok_X11_lose : zMok zM 129 := ⟨tk_X11_lose_0, by decide +kernel, ⟨by decide +kernel, by decide +kernel⟩, by decide +kernel, by decide +kernel⟩
set_option maxRecDepth 100000 in
theorem tk_X11_noCell_0 : zTok zM (zM 130).1.cls (zM 130).1.name (zM 130).2.1 (zM 130).2.2.2.2.1 tb_X11_noCell := zTok_of [704, 704, 804, 805, 44, 806] [] (by decide +kernel) (by decide +kernel) (by decide +kernel) (by decide +kernel) (by decide +kernel) (by decide +kernel)
theorem ok_X11_noCell : zMok zM 130 := ⟨tk_X11_noCell_0, by decide +kernel, ⟨by decide +kernel, by decide +kernel⟩, by decide +kernel, by decide +kernel⟩
set_option maxRecDepth 100000 in
theorem tk_X11_put_0 : zTok zM (zM 131).1.cls (zM 131).1.name (zM 131).2.1 (zM 131).2.2.2.2.1 tb_X11_put_0 := zTok_of [800, 801, 44, 802, 807, 809, 9, 44, 810, 979, 981, 31, 44, 982, 979, 981, 31, 44, 982, 816, 818, 11, 44, 819, 706, 705, 705] [] (by decide +kernel) (by decide +kernel) (by decide +kernel) (by decide +kernel) (by decide +kernel) (by decide +kernel)
set_option maxRecDepth 100000 in
theorem tk_X11_put_1 : zTok zM (zM 131).1.cls (zM 131).1.name (zM 131).2.1 (zM 131).2.2.2.2.1 tb_X11_put_1 := zTok_of [807, 809, 9, 44, 810] [] (by decide +kernel) (by decide +kernel) (by decide +kernel) (by decide +kernel) (by decide +kernel) (by decide +kernel)
theorem ok_X11_put : zMok zM 131 := ⟨zTok_app (tk_X11_put_0) tk_X11_put_1, by decide +kernel, ⟨by decide +kernel, by decide +kernel⟩, by decide +kernel, by decide +kernel⟩
set_option maxRecDepth 100000 in
theorem tk_X11_cell_0 : zTok zM (zM 132).1.cls (zM 132).1.name (zM 132).2.1 (zM 132).2.2.2.2.1 tb_X11_cell_0 := zTok_of [666, 800, 801, 44, 802, 811, 804, 805, 44, 806, 942, 943, 44, 944, 704, 705, 987, 989, 32, 44, 990, 979, 981, 31, 44, 982, 979, 981, 31, 44, 982, 987, 989, 32, 44, 990] [] (by decide +kernel) (by decide +kernel) (by decide +kernel) (by decide +kernel) (by decide +kernel) (by decide +kernel)
set_option maxRecDepth 100000 in
theorem tk_X11_cell_1 : zTok zM (zM 132).1.cls (zM 132).1.name (zM 132).2.1 (zM 132).2.2.2.2.1 tb_X11_cell_1 := zTok_of [706] [] (by decide +kernel) (by decide +kernel) (by decide +kernel) (by decide +kernel) (by decide +kernel) (by decide +kernel)
theorem ok_X11_cell : zMok zM 132 := ⟨zTok_app (tk_X11_cell_0) tk_X11_cell_1, by decide +kernel, ⟨by decide +kernel, by decide +kernel⟩, by decide +kernel, by decide +kernel⟩
set_option maxRecDepth 100000 in
theorem tk_X11_isBeyond_0 : zTok zM (zM 133).1.cls (zM 133).1.name (zM 133).2.1 (zM 133).2.2.2.2.1 tb_X11_isBeyond := zTok_of [] [] (by decide +kernel) (by decide +kernel) (by decide +kernel) (by decide +kernel) (by decide +kernel) (by decide +kernel)
theorem ok_X11_isBeyond : zMok zM 133 := ⟨tk_X11_isBeyond_0, by decide +kernel, ⟨by decide +kernel, by decide +kernel⟩, by decide +kernel, by decide +kernel⟩
set_option maxRecDepth 100000 in
theorem tk_X11_copy_0 : zTok zM (zM 134).1.cls (zM 134).1.name (zM 134).2.1 (zM 134).2.2.2.2.1 tb_X11_copy_0 := zTok_of [800, 801, 44, 802, 800, 801, 44, 802, 807, 809, 9, 44, 810, 704, 704, 816, 818, 11, 44, 819, 705, 705, 816, 818, 11, 44, 819] [] (by decide +kernel) (by decide +kernel) (by decide +kernel) (by decide +kernel) (by decide +kernel) (by decide +kernel)
set_option maxRecDepth 100000 in
theorem tk_X11_copy_1 : zTok zM (zM 134).1.cls (zM 134).1.name (zM 134).2.1 (zM 134).2.2.2.2.1 tb_X11_copy_1 := zTok_of [704, 820, 821, 44, 822, 704, 820, 821, 44, 822, 816, 818, 11, 44, 819, 707, 706] [] (by decide +kernel) (by decide +kernel) (by decide +kernel) (by decide +kernel) (by decide +kernel) (by decide +kernel)
set_option maxRecDepth 100000 in
theorem tk_X11_copy_2 : zTok zM (zM 134).1.cls (zM 134).1.name (zM 134).2.1 (zM 134).2.2.2.2.1 tb_X11_copy_2 := zTok_of [706, 707, 807, 809, 9, 44, 810] [] (by decide +kernel) (by decide +kernel) (by decide +kernel) (by decide +kernel) (by decide +kernel) (by decide +kernel)
theorem ok_X11_copy : zMok zM 134 := ⟨zTok_app (zTok_app (tk_X11_copy_0) tk_X11_copy_1) tk_X11_copy_2, by decide +kernel, ⟨by decide +kernel, by decide +kernel⟩, by decide +kernel, by decide +kernel⟩
set_option maxRecDepth 100000 in
theorem tk_X11_traced_0 : zTok zM (zM 135).1.cls (zM 135).1.name (zM 135).2.1 (zM 135).2.2.2.2.1 tb_X11_traced := zTok_of [708, 708] [] (by decide +kernel) (by decide +kernel) (by decide +kernel) (by decide +kernel) (by decide +kernel) (by decide +kernel)
theorem ok_X11_traced : zMok zM 135 := ⟨tk_X11_traced_0, by decide +kernel, ⟨by decide +kernel, by decide +kernel⟩, by decide +kernel, by decide +kernel⟩
set_option maxRecDepth 100000 in
theorem tk_X11_tell_0 : zTok zM (zM 136).1.cls (zM 136).1.name (zM 136).2.1 (zM 136).2.2.2.2.1 tb_X11_tell_0 := zTok_of [843, 845, 16, 44, 846, 669, 999, 1001, 33, 44, 1002, 999, 1001, 33, 44, 1002, 999, 1001, 33, 44, 1002, 999, 1001, 33, 44, 1002, 672] [] (by decide +kernel) (by decide +kernel) (by decide +kernel) (by decide +kernel) (by decide +kernel) (by decide +kernel)
set_option maxRecDepth 100000 in
theorem tk_X11_tell_1 : zTok zM (zM 136).1.cls (zM 136).1.name (zM 136).2.1 (zM 136).2.2.2.2.1 tb_X11_tell_1 := zTok_of [] [] (by decide +kernel) (by decide +kernel) (by decide +kernel) (by decide +kernel) (by decide +kernel) (by decide +kernel)
theorem ok_X11_tell : zMok zM 136 := ⟨zTok_app (tk_X11_tell_0) tk_X11_tell_1, by decide +kernel, ⟨by decide +kernel, by decide +kernel⟩, by decide +kernel, by decide +kernel⟩
set_option maxRecDepth 100000 in
theorem tk_X11_whisper_0 : zTok zM (zM 137).1.cls (zM 137).1.name (zM 137).2.1 (zM 137).2.2.2.2.1 tb_X11_whisper := zTok_of [843, 845, 16, 44, 846, 669, 999, 1001, 33, 44, 1002, 669] [] (by decide +kernel) (by decide +kernel) (by decide +kernel) (by decide +kernel) (by decide +kernel) (by decide +kernel)
theorem ok_X11_whisper : zMok zM 137 := ⟨tk_X11_whisper_0, by decide +kernel, ⟨by decide +kernel, by decide +kernel⟩, by decide +kernel, by decide +kernel⟩
set_option maxRecDepth 100000 in
theorem tk_X11_as_0 : zTok zM (zM 138).1.cls (zM 138).1.name (zM 138).2.1 (zM 138).2.2.2.2.1 tb_X11_as := zTok_of [843, 845, 16, 44, 846, 807, 809, 9, 44, 810, 811, 804, 805, 44, 806, 807, 809, 9, 44, 810, 669, 807, 809, 9, 44, 810, 816, 818, 11, 44, 819] [] (by decide +kernel) (by decide +kernel) (by decide +kernel) (by decide +kernel) (by decide +kernel) (by decide +kernel)
theorem ok_X11_as : zMok zM 138 := ⟨tk_X11_as_0, by decide +kernel, ⟨by decide +kernel, by decide +kernel⟩, by decide +kernel, by decide +kernel⟩
set_option maxRecDepth 100000 in
theorem tk_X11_trace_0 : zTok zM (zM 139).1.cls (zM 139).1.name (zM 139).2.1 (zM 139).2.2.2.2.1 tb_X11_trace := zTok_of [708] [] (by decide +kernel) (by decide +kernel) (by decide +kernel) (by decide +kernel) (by decide +kernel) (by decide +kernel)
theorem ok_X11_trace : zMok zM 139 := ⟨tk_X11_trace_0, by decide +kernel, ⟨by decide +kernel, by decide +kernel⟩, by decide +kernel, by decide +kernel⟩
set_option maxRecDepth 100000 in
theorem tk_X11_fault_0 : zTok zM (zM 140).1.cls (zM 140).1.name (zM 140).2.1 (zM 140).2.2.2.2.1 tb_X11_fault := zTok_of [666] [] (by decide +kernel) (by decide +kernel) (by decide +kernel) (by decide +kernel) (by decide +kernel) (by decide +kernel)
theorem ok_X11_fault : zMok zM 140 := ⟨tk_X11_fault_0, by decide +kernel, ⟨by decide +kernel, by decide +kernel⟩, by decide +kernel, by decide +kernel⟩
set_option maxRecDepth 100000 in
theorem tk_X11_many_0 : zTok zM (zM 141).1.cls (zM 141).1.name (zM 141).2.1 (zM 141).2.2.2.2.1 tb_X11_many := zTok_of [668, 667, 674, 675, 700] [] (by decide +kernel) (by decide +kernel) (by decide +kernel) (by decide +kernel) (by decide +kernel) (by decide +kernel)
theorem ok_X11_many : zMok zM 141 := ⟨tk_X11_many_0, by decide +kernel, ⟨by decide +kernel, by decide +kernel⟩, by decide +kernel, by decide +kernel⟩
set_option maxRecDepth 100000 in
theorem tk_J6_bitCount_0f7a4_0 : zTok zM (zM 142).1.cls (zM 142).1.name (zM 142).2.1 (zM 142).2.2.2.2.1 tb_J6_bitCount_0f7a4_0 := zTok_of [493, 494, 494, 495] [] (by decide +kernel) (by decide +kernel) (by decide +kernel) (by decide +kernel) (by decide +kernel) (by decide +kernel)
set_option maxRecDepth 100000 in
theorem tk_J6_bitCount_0f7a4_1 : zTok zM (zM 142).1.cls (zM 142).1.name (zM 142).2.1 (zM 142).2.2.2.2.1 tb_J6_bitCount_0f7a4_1 := zTok_of [] [] (by decide +kernel) (by decide +kernel) (by decide +kernel) (by decide +kernel) (by decide +kernel) (by decide +kernel)
theorem ok_J6_bitCount_0f7a4 : zMok zM 142 := ⟨zTok_app (tk_J6_bitCount_0f7a4_0) tk_J6_bitCount_0f7a4_1, by decide +kernel, ⟨by decide +kernel, by decide +kernel⟩, by decide +kernel, by decide +kernel⟩
set_option maxRecDepth 100000 in
theorem tk_J7_fill_53178_0 : zTok zM (zM 143).1.cls (zM 143).1.name (zM 143).2.1 (zM 143).2.2.2.2.1 tb_J7_fill_53178 := zTok_of [] [] (by decide +kernel) (by decide +kernel) (by decide +kernel) (by decide +kernel) (by decide +kernel) (by decide +kernel)
theorem ok_J7_fill_53178 : zMok zM 143 := ⟨tk_J7_fill_53178_0, by decide +kernel, ⟨by decide +kernel, by decide +kernel⟩, by decide +kernel, by decide +kernel⟩
