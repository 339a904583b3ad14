set_option maxRecDepth 100000 in
theorem tk_X11_play_0 : zTok zM (zM 121).1.cls (zM 121).1.name (zM 121).2.1 (zM 121).2.2.2.2.1 tb_X11_play_0 := zTok_of [698, 699, 679, 700, 701, 704, 698, 672] [] (by decide +kernel) (by decide +kernel) (by decide +kernel) (by decide +kernel) (by decide +kernel) (by decide +kernel)
set_option maxRecDepth 100000 in
theorem tk_X11_play_1 : zTok zM (zM 121).1.cls (zM 121).1.name (zM 121).2.1 (zM 121).2.2.2.2.1 tb_X11_play_1 := zTok_of [700, 673, 934, 936, 29, 45, 937, 938, 940, 30, 45, 941, 698, 704] [] (by decide +kernel) (by decide +kernel) (by decide +kernel) (by decide +kernel) (by decide +kernel) (by decide +kernel)
set_option maxRecDepth 100000 in
theorem tk_X11_play_2 : zTok zM (zM 121).1.cls (zM 121).1.name (zM 121).2.1 (zM 121).2.2.2.2.1 tb_X11_play_2 := zTok_of [703, 703, 703, 704] [] (by decide +kernel) (by decide +kernel) (by decide +kernel) (by decide +kernel) (by decide +kernel) (by decide +kernel)
theorem ok_X11_play : zMok zM 121 := ⟨zTok_app (zTok_app (tk_X11_play_0) tk_X11_play_1) tk_X11_play_2, by decide +kernel, ⟨by decide +kernel, by decide +kernel⟩, by decide +kernel, by decide +kernel⟩
set_option maxRecDepth 100000 in
theorem tk_X11_game_0 : zTok zM (zM 122).1.cls (zM 122).1.name (zM 122).2.1 (zM 122).2.2.2.2.1 tb_X11_game := zTok_of [906, 809, 810, 45, 811, 673, 930, 932, 28, 45, 933] [] (by decide +kernel) (by decide +kernel) (by decide +kernel) (by decide +kernel) (by decide +kernel) (by decide +kernel)
theorem ok_X11_game : zMok zM 122 := ⟨tk_X11_game_0, by decide +kernel, ⟨by decide +kernel, by decide +kernel⟩, by decide +kernel, by decide +kernel⟩
set_option maxRecDepth 100000 in
theorem tk_X11_porter_0 : zTok zM (zM 123).1.cls (zM 123).1.name (zM 123).2.1 (zM 123).2.2.2.2.1 tb_X11_porter_0 := zTok_of [848, 850, 17, 45, 851, 946, 809, 810, 45, 811, 809, 810, 45, 811, 947, 948, 45, 949, 675, 676, 946] [] (by decide +kernel) (by decide +kernel) (by decide +kernel) (by decide +kernel) (by decide +kernel) (by decide +kernel)
set_option maxRecDepth 100000 in
theorem tk_X11_porter_1 : zTok zM (zM 123).1.cls (zM 123).1.name (zM 123).2.1 (zM 123).2.2.2.2.1 tb_X11_porter_1 := zTok_of [946, 946, 946, 674, 951, 951, 952, 953, 45, 954] [] (by decide +kernel) (by decide +kernel) (by decide +kernel) (by decide +kernel) (by decide +kernel) (by decide +kernel)
theorem ok_X11_porter : zMok zM 123 := ⟨zTok_app (tk_X11_porter_0) tk_X11_porter_1, by decide +kernel, ⟨by decide +kernel, by decide +kernel⟩, by decide +kernel, by decide +kernel⟩
set_option maxRecDepth 100000 in
theorem tk_X11_reading_0 : zTok zM (zM 124).1.cls (zM 124).1.name (zM 124).2.1 (zM 124).2.2.2.2.1 tb_X11_reading_0 := zTok_of [848, 850, 17, 45, 851, 848, 850, 17, 45, 851, 959, 809, 810, 45, 811, 705, 706, 705, 707, 705] [] (by decide +kernel) (by decide +kernel) (by decide +kernel) (by decide +kernel) (by decide +kernel) (by decide +kernel)
set_option maxRecDepth 100000 in
theorem tk_X11_reading_1 : zTok zM (zM 124).1.cls (zM 124).1.name (zM 124).2.1 (zM 124).2.2.2.2.1 tb_X11_reading_1 := zTok_of [708, 705, 705, 705, 705] [] (by decide +kernel) (by decide +kernel) (by decide +kernel) (by decide +kernel) (by decide +kernel) (by decide +kernel)
theorem ok_X11_reading : zMok zM 124 := ⟨zTok_app (tk_X11_reading_0) tk_X11_reading_1, by decide +kernel, ⟨by decide +kernel, by decide +kernel⟩, by decide +kernel, by decide +kernel⟩
set_option maxRecDepth 100000 in
theorem tk_X11_back_0 : zTok zM (zM 125).1.cls (zM 125).1.name (zM 125).2.1 (zM 125).2.2.2.2.1 tb_X11_back := zTok_of [705, 809, 810, 45, 811, 705, 705, 705] [] (by decide +kernel) (by decide +kernel) (by decide +kernel) (by decide +kernel) (by decide +kernel) (by decide +kernel)
theorem ok_X11_back : zMok zM 125 := ⟨tk_X11_back_0, by decide +kernel, ⟨by decide +kernel, by decide +kernel⟩, by decide +kernel, by decide +kernel⟩
set_option maxRecDepth 100000 in
theorem tk_X11_areSo_0 : zTok zM (zM 126).1.cls (zM 126).1.name (zM 126).2.1 (zM 126).2.2.2.2.1 tb_X11_areSo_0 := zTok_of [705, 880, 882, 21, 45, 883, 706, 884, 886, 22, 45, 887, 707, 707, 884, 886, 22, 45, 887, 689, 708] [] (by decide +kernel) (by decide +kernel) (by decide +kernel) (by decide +kernel) (by decide +kernel) (by decide +kernel)
set_option maxRecDepth 100000 in
theorem tk_X11_areSo_1 : zTok zM (zM 126).1.cls (zM 126).1.name (zM 126).2.1 (zM 126).2.2.2.2.1 tb_X11_areSo_1 := zTok_of [] [] (by decide +kernel) (by decide +kernel) (by decide +kernel) (by decide +kernel) (by decide +kernel) (by decide +kernel)
theorem ok_X11_areSo : zMok zM 126 := ⟨zTok_app (tk_X11_areSo_0) tk_X11_areSo_1, by decide +kernel, ⟨by decide +kernel, by decide +kernel⟩, by decide +kernel, by decide +kernel⟩
set_option maxRecDepth 100000 in
theorem tk_X11_fits_0 : zTok zM (zM 127).1.cls (zM 127).1.name (zM 127).2.1 (zM 127).2.2.2.2.1 tb_X11_fits_0 := zTok_of [816, 809, 810, 45, 811, 673, 968, 970, 31, 45, 971] [] (by decide +kernel) (by decide +kernel) (by decide +kernel) (by decide +kernel) (by decide +kernel) (by decide +kernel)
set_option maxRecDepth 100000 in
theorem tk_X11_fits_1 : zTok zM (zM 127).1.cls (zM 127).1.name (zM 127).2.1 (zM 127).2.2.2.2.1 tb_X11_fits_1 := zTok_of [] [] (by decide +kernel) (by decide +kernel) (by decide +kernel) (by decide +kernel) (by decide +kernel) (by decide +kernel)
theorem ok_X11_fits : zMok zM 127 := ⟨zTok_app (tk_X11_fits_0) tk_X11_fits_1, by decide +kernel, ⟨by decide +kernel, by decide +kernel⟩, by decide +kernel, by decide +kernel⟩
set_option maxRecDepth 100000 in
theorem tk_X11_noSheet_0 : zTok zM (zM 128).1.cls (zM 128).1.name (zM 128).2.1 (zM 128).2.2.2.2.1 tb_X11_noSheet := zTok_of [808, 809, 810, 45, 811] [] (by decide +kernel) (by decide +kernel) (by decide +kernel) (by decide +kernel) (by decide +kernel) (by decide +kernel)
theorem ok_X11_noSheet : zMok zM 128 := ⟨tk_X11_noSheet_0, by decide +kernel, ⟨by decide +kernel, by decide +kernel⟩, by decide +kernel, by decide +kernel⟩
set_option maxRecDepth 100000 in
theorem tk_X11_sheet_0 : zTok zM (zM 129).1.cls (zM 129).1.name (zM 129).2.1 (zM 129).2.2.2.2.1 tb_X11_sheet_0 := zTok_of [805, 806, 45, 807, 812, 814, 10, 45, 815, 816, 809, 810, 45, 811, 812, 814, 10, 45, 815, 821, 823, 12, 45, 824, 709, 710] [] (by decide +kernel) (by decide +kernel) (by decide +kernel) (by decide +kernel) (by decide +kernel) (by decide +kernel)
set_option maxRecDepth 100000 in
theorem tk_X11_sheet_1 : zTok zM (zM 129).1.cls (zM 129).1.name (zM 129).2.1 (zM 129).2.2.2.2.1 tb_X11_sheet_1 := zTok_of [711, 812, 814, 10, 45, 815] [] (by decide +kernel) (by decide +kernel) (by decide +kernel) (by decide +kernel) (by decide +kernel) (by decide +kernel)
theorem ok_X11_sheet : zMok zM 129 := ⟨zTok_app (tk_X11_sheet_0) tk_X11_sheet_1, by decide +kernel, ⟨by decide +kernel, by decide +kernel⟩, by decide +kernel, by decide +kernel⟩
set_option maxRecDepth 100000 in
theorem tk_X11_lose_0 : zTok zM (zM 130).1.cls (zM 130).1.name (zM 130).2.1 (zM 130).2.2.2.2.1 tb_X11_lose := zTok_of [805, 806, 45, 807, 709, 709] [] (by decide +kernel) (by decide +kernel) (by decide +kernel) (by decide +kernel) (by decide +kernel) (by decide +kernel)
theorem ok_X11_lose : zMok zM 130 := ⟨tk_X11_lose_0, by decide +kernel, ⟨by decide +kernel, by decide +kernel⟩, by decide +kernel, by decide +kernel⟩
set_option maxRecDepth 100000 in
theorem tk_X11_noCell_0 : zTok zM (zM 131).1.cls (zM 131).1.name (zM 131).2.1 (zM 131).2.2.2.2.1 tb_X11_noCell := zTok_of [709, 709, 809, 810, 45, 811] [] (by decide +kernel) (by decide +kernel) (by decide +kernel) (by decide +kernel) (by decide +kernel) (by decide +kernel)
theorem ok_X11_noCell : zMok zM 131 := ⟨tk_X11_noCell_0, by decide +kernel, ⟨by decide +kernel, by decide +kernel⟩, by decide +kernel, by decide +kernel⟩
set_option maxRecDepth 100000 in
theorem tk_X11_put_0 : zTok zM (zM 132).1.cls (zM 132).1.name (zM 132).2.1 (zM 132).2.2.2.2.1 tb_X11_put_0 := zTok_of [805, 806, 45, 807, 812, 814, 10, 45, 815, 984, 986, 32, 45, 987, 984, 986, 32, 45, 987, 821, 823, 12, 45, 824, 711, 710, 710] [] (by decide +kernel) (by decide +kernel) (by decide +kernel) (by decide +kernel) (by decide +kernel) (by decide +kernel)
set_option maxRecDepth 100000 in
theorem tk_X11_put_1 : zTok zM (zM 132).1.cls (zM 132).1.name (zM 132).2.1 (zM 132).2.2.2.2.1 tb_X11_put_1 := zTok_of [812, 814, 10, 45, 815] [] (by decide +kernel) (by decide +kernel) (by decide +kernel) (by decide +kernel) (by decide +kernel) (by decide +kernel)
theorem ok_X11_put : zMok zM 132 := ⟨zTok_app (tk_X11_put_0) tk_X11_put_1, by decide +kernel, ⟨by decide +kernel, by decide +kernel⟩, by decide +kernel, by decide +kernel⟩
set_option maxRecDepth 100000 in
theorem tk_X11_cell_0 : zTok zM (zM 133).1.cls (zM 133).1.name (zM 133).2.1 (zM 133).2.2.2.2.1 tb_X11_cell_0 := zTok_of [671, 805, 806, 45, 807, 816, 809, 810, 45, 811, 947, 948, 45, 949, 709, 710, 992, 994, 33, 45, 995, 984, 986, 32, 45, 987, 984, 986, 32, 45, 987, 992, 994, 33, 45, 995] [] (by decide +kernel) (by decide +kernel) (by decide +kernel) (by decide +kernel) (by decide +kernel) (by decide +kernel)
set_option maxRecDepth 100000 in
theorem tk_X11_cell_1 : zTok zM (zM 133).1.cls (zM 133).1.name (zM 133).2.1 (zM 133).2.2.2.2.1 tb_X11_cell_1 := zTok_of [711] [] (by decide +kernel) (by decide +kernel) (by decide +kernel) (by decide +kernel) (by decide +kernel) (by decide +kernel)
theorem ok_X11_cell : zMok zM 133 := ⟨zTok_app (tk_X11_cell_0) tk_X11_cell_1, by decide +kernel, ⟨by decide +kernel, by decide +kernel⟩, by decide +kernel, by decide +kernel⟩
set_option maxRecDepth 100000 in
theorem tk_X11_isBeyond_0 : zTok zM (zM 134).1.cls (zM 134).1.name (zM 134).2.1 (zM 134).2.2.2.2.1 tb_X11_isBeyond := zTok_of [] [] (by decide +kernel) (by decide +kernel) (by decide +kernel) (by decide +kernel) (by decide +kernel) (by decide +kernel)
theorem ok_X11_isBeyond : zMok zM 134 := ⟨tk_X11_isBeyond_0, by decide +kernel, ⟨by decide +kernel, by decide +kernel⟩, by decide +kernel, by decide +kernel⟩
set_option maxRecDepth 100000 in
theorem tk_X11_copy_0 : zTok zM (zM 135).1.cls (zM 135).1.name (zM 135).2.1 (zM 135).2.2.2.2.1 tb_X11_copy_0 := zTok_of [805, 806, 45, 807, 805, 806, 45, 807, 812, 814, 10, 45, 815, 709, 709, 821, 823, 12, 45, 824, 710, 710, 821, 823, 12, 45, 824] [] (by decide +kernel) (by decide +kernel) (by decide +kernel) (by decide +kernel) (by decide +kernel) (by decide +kernel)
set_option maxRecDepth 100000 in
theorem tk_X11_copy_1 : zTok zM (zM 135).1.cls (zM 135).1.name (zM 135).2.1 (zM 135).2.2.2.2.1 tb_X11_copy_1 := zTok_of [709, 825, 826, 45, 827, 709, 825, 826, 45, 827, 821, 823, 12, 45, 824, 712, 711] [] (by decide +kernel) (by decide +kernel) (by decide +kernel) (by decide +kernel) (by decide +kernel) (by decide +kernel)
set_option maxRecDepth 100000 in
theorem tk_X11_copy_2 : zTok zM (zM 135).1.cls (zM 135).1.name (zM 135).2.1 (zM 135).2.2.2.2.1 tb_X11_copy_2 := zTok_of [711, 712, 812, 814, 10, 45, 815] [] (by decide +kernel) (by decide +kernel) (by decide +kernel) (by decide +kernel) (by decide +kernel) (by decide +kernel)
theorem ok_X11_copy : zMok zM 135 := ⟨zTok_app (zTok_app (tk_X11_copy_0) tk_X11_copy_1) tk_X11_copy_2, by decide +kernel, ⟨by decide +kernel, by decide +kernel⟩, by decide +kernel, by decide +kernel⟩
set_option maxRecDepth 100000 in
theorem tk_X11_traced_0 : zTok zM (zM 136).1.cls (zM 136).1.name (zM 136).2.1 (zM 136).2.2.2.2.1 tb_X11_traced := zTok_of [713, 713] [] (by decide +kernel) (by decide +kernel) (by decide +kernel) (by decide +kernel) (by decide +kernel) (by decide +kernel)
theorem ok_X11_traced : zMok zM 136 := ⟨tk_X11_traced_0, by decide +kernel, ⟨by decide +kernel, by decide +kernel⟩, by decide +kernel, by decide +kernel⟩
set_option maxRecDepth 100000 in
theorem tk_X11_tell_0 : zTok zM (zM 137).1.cls (zM 137).1.name (zM 137).2.1 (zM 137).2.2.2.2.1 tb_X11_tell_0 := zTok_of [848, 850, 17, 45, 851, 674, 1004, 1006, 34, 45, 1007, 1004, 1006, 34, 45, 1007, 1004, 1006, 34, 45, 1007, 1004, 1006, 34, 45, 1007, 677] [] (by decide +kernel) (by decide +kernel) (by decide +kernel) (by decide +kernel) (by decide +kernel) (by decide +kernel)
set_option maxRecDepth 100000 in
theorem tk_X11_tell_1 : zTok zM (zM 137).1.cls (zM 137).1.name (zM 137).2.1 (zM 137).2.2.2.2.1 tb_X11_tell_1 := zTok_of [] [] (by decide +kernel) (by decide +kernel) (by decide +kernel) (by decide +kernel) (by decide +kernel) (by decide +kernel)
theorem ok_X11_tell : zMok zM 137 := ⟨zTok_app (tk_X11_tell_0) tk_X11_tell_1, by decide +kernel, ⟨by decide +kernel, by decide +kernel⟩, by decide +kernel, by decide +kernel⟩
set_option maxRecDepth 100000 in
theorem tk_X11_whisper_0 : zTok zM (zM 138).1.cls (zM 138).1.name (zM 138).2.1 (zM 138).2.2.2.2.1 tb_X11_whisper := zTok_of [848, 850, 17, 45, 851, 674, 1004, 1006, 34, 45, 1007, 674] [] (by decide +kernel) (by decide +kernel) (by decide +kernel) (by decide +kernel) (by decide +kernel) (by decide +kernel)
theorem ok_X11_whisper : zMok zM 138 := ⟨tk_X11_whisper_0, by decide +kernel, ⟨by decide +kernel, by decide +kernel⟩, by decide +kernel, by decide +kernel⟩
set_option maxRecDepth 100000 in
theorem tk_X11_as_0 : zTok zM (zM 139).1.cls (zM 139).1.name (zM 139).2.1 (zM 139).2.2.2.2.1 tb_X11_as := zTok_of [848, 850, 17, 45, 851, 812, 814, 10, 45, 815, 816, 809, 810, 45, 811, 812, 814, 10, 45, 815, 674, 812, 814, 10, 45, 815, 821, 823, 12, 45, 824] [] (by decide +kernel) (by decide +kernel) (by decide +kernel) (by decide +kernel) (by decide +kernel) (by decide +kernel)
theorem ok_X11_as : zMok zM 139 := ⟨tk_X11_as_0, by decide +kernel, ⟨by decide +kernel, by decide +kernel⟩, by decide +kernel, by decide +kernel⟩
set_option maxRecDepth 100000 in
theorem tk_X11_trace_0 : zTok zM (zM 140).1.cls (zM 140).1.name (zM 140).2.1 (zM 140).2.2.2.2.1 tb_X11_trace := zTok_of [713] [] (by decide +kernel) (by decide +kernel) (by decide +kernel) (by decide +kernel) (by decide +kernel) (by decide +kernel)
theorem ok_X11_trace : zMok zM 140 := ⟨tk_X11_trace_0, by decide +kernel, ⟨by decide +kernel, by decide +kernel⟩, by decide +kernel, by decide +kernel⟩
set_option maxRecDepth 100000 in
theorem tk_X11_fault_0 : zTok zM (zM 141).1.cls (zM 141).1.name (zM 141).2.1 (zM 141).2.2.2.2.1 tb_X11_fault := zTok_of [671] [] (by decide +kernel) (by decide +kernel) (by decide +kernel) (by decide +kernel) (by decide +kernel) (by decide +kernel)
theorem ok_X11_fault : zMok zM 141 := ⟨tk_X11_fault_0, by decide +kernel, ⟨by decide +kernel, by decide +kernel⟩, by decide +kernel, by decide +kernel⟩
set_option maxRecDepth 100000 in
theorem tk_X11_many_0 : zTok zM (zM 142).1.cls (zM 142).1.name (zM 142).2.1 (zM 142).2.2.2.2.1 tb_X11_many := zTok_of [673, 672, 679, 680, 705] [] (by decide +kernel) (by decide +kernel) (by decide +kernel) (by decide +kernel) (by decide +kernel) (by decide +kernel)
theorem ok_X11_many : zMok zM 142 := ⟨tk_X11_many_0, by decide +kernel, ⟨by decide +kernel, by decide +kernel⟩, by decide +kernel, by decide +kernel⟩
set_option maxRecDepth 100000 in
theorem tk_J6_bitCount_0f7a4_0 : zTok zM (zM 143).1.cls (zM 143).1.name (zM 143).2.1 (zM 143).2.2.2.2.1 tb_J6_bitCount_0f7a4_0 := zTok_of [498, 499, 499, 500] [] (by decide +kernel) (by decide +kernel) (by decide +kernel) (by decide +kernel) (by decide +kernel) (by decide +kernel)
set_option maxRecDepth 100000 in
theorem tk_J6_bitCount_0f7a4_1 : zTok zM (zM 143).1.cls (zM 143).1.name (zM 143).2.1 (zM 143).2.2.2.2.1 tb_J6_bitCount_0f7a4_1 := zTok_of [] [] (by decide +kernel) (by decide +kernel) (by decide +kernel) (by decide +kernel) (by decide +kernel) (by decide +kernel)
theorem ok_J6_bitCount_0f7a4 : zMok zM 143 := ⟨zTok_app (tk_J6_bitCount_0f7a4_0) tk_J6_bitCount_0f7a4_1, by decide +kernel, ⟨by decide +kernel, by decide +kernel⟩, by decide +kernel, by decide +kernel⟩
set_option maxRecDepth 100000 in
theorem tk_J7_fill_53178_0 : zTok zM (zM 144).1.cls (zM 144).1.name (zM 144).2.1 (zM 144).2.2.2.2.1 tb_J7_fill_53178 := zTok_of [] [] (by decide +kernel) (by decide +kernel) (by decide +kernel) (by decide +kernel) (by decide +kernel) (by decide +kernel)
theorem ok_J7_fill_53178 : zMok zM 144 := ⟨tk_J7_fill_53178_0, by decide +kernel, ⟨by decide +kernel, by decide +kernel⟩, by decide +kernel, by decide +kernel⟩
