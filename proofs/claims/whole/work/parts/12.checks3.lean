set_option maxRecDepth 100000 in
theorem tk_X11_hasAnswer_0 : zTok zM (zM 102).1.cls (zM 102).1.name (zM 102).2.1 (zM 102).2.2.2.2.1 tb_X11_hasAnswer_0 := zTok_of [675, 856, 857, 45, 858, 676, 856, 857, 45, 858, 674, 674, 856, 857, 45, 858] [] (by decide +kernel) (by decide +kernel) (by decide +kernel) (by decide +kernel) (by decide +kernel) (by decide +kernel)
set_option maxRecDepth 100000 in
theorem tk_X11_hasAnswer_1 : zTok zM (zM 102).1.cls (zM 102).1.name (zM 102).2.1 (zM 102).2.2.2.2.1 tb_X11_hasAnswer_1 := zTok_of [] [] (by decide +kernel) (by decide +kernel) (by decide +kernel) (by decide +kernel) (by decide +kernel) (by decide +kernel)
theorem ok_X11_hasAnswer : zMok zM 102 := ⟨zTok_app (tk_X11_hasAnswer_0) tk_X11_hasAnswer_1, by decide +kernel, ⟨by decide +kernel, by decide +kernel⟩, by decide +kernel, by decide +kernel⟩
set_option maxRecDepth 100000 in
theorem tk_X11_ofTale_0 : zTok zM (zM 103).1.cls (zM 103).1.name (zM 103).2.1 (zM 103).2.2.2.2.1 tb_X11_ofTale_0 := zTok_of [848, 850, 17, 45, 851, 674, 675, 676, 677, 678, 679, 852, 854, 18, 45, 855] [] (by decide +kernel) (by decide +kernel) (by decide +kernel) (by decide +kernel) (by decide +kernel) (by decide +kernel)
set_option maxRecDepth 100000 in
theorem tk_X11_ofTale_1 : zTok zM (zM 103).1.cls (zM 103).1.name (zM 103).2.1 (zM 103).2.2.2.2.1 tb_X11_ofTale_1 := zTok_of [] [] (by decide +kernel) (by decide +kernel) (by decide +kernel) (by decide +kernel) (by decide +kernel) (by decide +kernel)
theorem ok_X11_ofTale : zMok zM 103 := ⟨zTok_app (tk_X11_ofTale_0) tk_X11_ofTale_1, by decide +kernel, ⟨by decide +kernel, by decide +kernel⟩, by decide +kernel, by decide +kernel⟩
set_option maxRecDepth 100000 in
theorem tk_X11_know_0 : zTok zM (zM 104).1.cls (zM 104).1.name (zM 104).2.1 (zM 104).2.2.2.2.1 tb_X11_know_0 := zTok_of [863, 809, 810, 45, 811, 673, 679, 856, 857, 45, 858, 679, 679, 679] [] (by decide +kernel) (by decide +kernel) (by decide +kernel) (by decide +kernel) (by decide +kernel) (by decide +kernel)
set_option maxRecDepth 100000 in
theorem tk_X11_know_1 : zTok zM (zM 104).1.cls (zM 104).1.name (zM 104).2.1 (zM 104).2.2.2.2.1 tb_X11_know_1 := zTok_of [] [] (by decide +kernel) (by decide +kernel) (by decide +kernel) (by decide +kernel) (by decide +kernel) (by decide +kernel)
theorem ok_X11_know : zMok zM 104 := ⟨zTok_app (tk_X11_know_0) tk_X11_know_1, by decide +kernel, ⟨by decide +kernel, by decide +kernel⟩, by decide +kernel, by decide +kernel⟩
set_option maxRecDepth 100000 in
theorem tk_X11_believe_0 : zTok zM (zM 105).1.cls (zM 105).1.name (zM 105).2.1 (zM 105).2.2.2.2.1 tb_X11_believe_0 := zTok_of [863, 809, 810, 45, 811, 673, 680, 856, 857, 45, 858, 680, 680, 680] [] (by decide +kernel) (by decide +kernel) (by decide +kernel) (by decide +kernel) (by decide +kernel) (by decide +kernel)
set_option maxRecDepth 100000 in
theorem tk_X11_believe_1 : zTok zM (zM 105).1.cls (zM 105).1.name (zM 105).2.1 (zM 105).2.2.2.2.1 tb_X11_believe_1 := zTok_of [] [] (by decide +kernel) (by decide +kernel) (by decide +kernel) (by decide +kernel) (by decide +kernel) (by decide +kernel)
theorem ok_X11_believe : zMok zM 105 := ⟨zTok_app (tk_X11_believe_0) tk_X11_believe_1, by decide +kernel, ⟨by decide +kernel, by decide +kernel⟩, by decide +kernel, by decide +kernel⟩
set_option maxRecDepth 100000 in
theorem tk_X11_beginNight_0 : zTok zM (zM 106).1.cls (zM 106).1.name (zM 106).2.1 (zM 106).2.2.2.2.1 tb_X11_beginNight := zTok_of [689, 690, 691, 692, 693, 694] [] (by decide +kernel) (by decide +kernel) (by decide +kernel) (by decide +kernel) (by decide +kernel) (by decide +kernel)
theorem ok_X11_beginNight : zMok zM 106 := ⟨tk_X11_beginNight_0, by decide +kernel, ⟨by decide +kernel, by decide +kernel⟩, by decide +kernel, by decide +kernel⟩
set_option maxRecDepth 100000 in
theorem tk_X11_goSteps_0 : zTok zM (zM 107).1.cls (zM 107).1.name (zM 107).2.1 (zM 107).2.2.2.2.1 tb_X11_goSteps := zTok_of [689, 689, 689, 672, 694, 694, 672, 689, 689] [] (by decide +kernel) (by decide +kernel) (by decide +kernel) (by decide +kernel) (by decide +kernel) (by decide +kernel)
theorem ok_X11_goSteps : zMok zM 107 := ⟨tk_X11_goSteps_0, by decide +kernel, ⟨by decide +kernel, by decide +kernel⟩, by decide +kernel, by decide +kernel⟩
set_option maxRecDepth 100000 in
theorem tk_X11_goTale_0 : zTok zM (zM 108).1.cls (zM 108).1.name (zM 108).2.1 (zM 108).2.2.2.2.1 tb_X11_goTale_0 := zTok_of [678, 892, 894, 24, 45, 895, 694, 690, 691, 852, 854, 18, 45, 855, 689, 693, 693, 680, 675, 856, 857, 45, 858, 680] [] (by decide +kernel) (by decide +kernel) (by decide +kernel) (by decide +kernel) (by decide +kernel) (by decide +kernel)
set_option maxRecDepth 100000 in
theorem tk_X11_goTale_1 : zTok zM (zM 108).1.cls (zM 108).1.name (zM 108).2.1 (zM 108).2.2.2.2.1 tb_X11_goTale_1 := zTok_of [676, 856, 857, 45, 858, 892, 894, 24, 45, 895] [] (by decide +kernel) (by decide +kernel) (by decide +kernel) (by decide +kernel) (by decide +kernel) (by decide +kernel)
theorem ok_X11_goTale : zMok zM 108 := ⟨zTok_app (tk_X11_goTale_0) tk_X11_goTale_1, by decide +kernel, ⟨by decide +kernel, by decide +kernel⟩, by decide +kernel, by decide +kernel⟩
set_option maxRecDepth 100000 in
theorem tk_X11_goHeard_0 : zTok zM (zM 109).1.cls (zM 109).1.name (zM 109).2.1 (zM 109).2.2.2.2.1 tb_X11_goHeard := zTok_of [694, 888, 890, 23, 45, 891, 690, 677, 690, 691, 691, 692, 692] [] (by decide +kernel) (by decide +kernel) (by decide +kernel) (by decide +kernel) (by decide +kernel) (by decide +kernel)
theorem ok_X11_goHeard : zMok zM 109 := ⟨tk_X11_goHeard_0, by decide +kernel, ⟨by decide +kernel, by decide +kernel⟩, by decide +kernel, by decide +kernel⟩
set_option maxRecDepth 100000 in
theorem tk_X11_goOrder_0 : zTok zM (zM 110).1.cls (zM 110).1.name (zM 110).2.1 (zM 110).2.2.2.2.1 tb_X11_goOrder := zTok_of [880, 882, 21, 45, 883, 711, 884, 886, 22, 45, 887] [] (by decide +kernel) (by decide +kernel) (by decide +kernel) (by decide +kernel) (by decide +kernel) (by decide +kernel)
theorem ok_X11_goOrder : zMok zM 110 := ⟨tk_X11_goOrder_0, by decide +kernel, ⟨by decide +kernel, by decide +kernel⟩, by decide +kernel, by decide +kernel⟩
set_option maxRecDepth 100000 in
theorem tk_X11_orderBarred_0 : zTok zM (zM 111).1.cls (zM 111).1.name (zM 111).2.1 (zM 111).2.2.2.2.1 tb_X11_orderBarred_0 := zTok_of [673, 812, 814, 10, 45, 815, 817, 819, 11, 45, 820, 812, 814, 10, 45, 815, 711] [] (by decide +kernel) (by decide +kernel) (by decide +kernel) (by decide +kernel) (by decide +kernel) (by decide +kernel)
set_option maxRecDepth 100000 in
theorem tk_X11_orderBarred_1 : zTok zM (zM 111).1.cls (zM 111).1.name (zM 111).2.1 (zM 111).2.2.2.2.1 tb_X11_orderBarred_1 := zTok_of [848, 850, 17, 45, 851, 812, 814, 10, 45, 815, 812, 814, 10, 45, 815] [] (by decide +kernel) (by decide +kernel) (by decide +kernel) (by decide +kernel) (by decide +kernel) (by decide +kernel)
theorem ok_X11_orderBarred : zMok zM 111 := ⟨zTok_app (tk_X11_orderBarred_0) tk_X11_orderBarred_1, by decide +kernel, ⟨by decide +kernel, by decide +kernel⟩, by decide +kernel, by decide +kernel⟩
set_option maxRecDepth 100000 in
theorem tk_X11_night_0 : zTok zM (zM 112).1.cls (zM 112).1.name (zM 112).2.1 (zM 112).2.2.2.2.1 tb_X11_night_0 := zTok_of [805, 806, 45, 807, 812, 814, 10, 45, 815, 816, 809, 810, 45, 811, 808, 809, 810, 45, 811, 812, 814, 10, 45, 815, 872, 874, 19, 45, 875] [] (by decide +kernel) (by decide +kernel) (by decide +kernel) (by decide +kernel) (by decide +kernel) (by decide +kernel)
set_option maxRecDepth 100000 in
theorem tk_X11_night_1 : zTok zM (zM 112).1.cls (zM 112).1.name (zM 112).2.1 (zM 112).2.2.2.2.1 tb_X11_night_1 := zTok_of [679, 876, 878, 20, 45, 879, 689, 693, 692, 690] [] (by decide +kernel) (by decide +kernel) (by decide +kernel) (by decide +kernel) (by decide +kernel) (by decide +kernel)
theorem ok_X11_night : zMok zM 112 := ⟨zTok_app (tk_X11_night_0) tk_X11_night_1, by decide +kernel, ⟨by decide +kernel, by decide +kernel⟩, by decide +kernel, by decide +kernel⟩
set_option maxRecDepth 100000 in
theorem tk_X11_comes_0 : zTok zM (zM 113).1.cls (zM 113).1.name (zM 113).2.1 (zM 113).2.2.2.2.1 tb_X11_comes_0 := zTok_of [805, 806, 45, 807, 812, 814, 10, 45, 815, 816, 809, 810, 45, 811, 812, 814, 10, 45, 815, 872, 874, 19, 45, 875, 679, 876, 878, 20, 45, 879, 694] [] (by decide +kernel) (by decide +kernel) (by decide +kernel) (by decide +kernel) (by decide +kernel) (by decide +kernel)
set_option maxRecDepth 100000 in
theorem tk_X11_comes_1 : zTok zM (zM 113).1.cls (zM 113).1.name (zM 113).2.1 (zM 113).2.2.2.2.1 tb_X11_comes_1 := zTok_of [] [] (by decide +kernel) (by decide +kernel) (by decide +kernel) (by decide +kernel) (by decide +kernel) (by decide +kernel)
theorem ok_X11_comes : zMok zM 113 := ⟨zTok_app (tk_X11_comes_0) tk_X11_comes_1, by decide +kernel, ⟨by decide +kernel, by decide +kernel⟩, by decide +kernel, by decide +kernel⟩
set_option maxRecDepth 100000 in
theorem tk_X11_isUsed_0 : zTok zM (zM 114).1.cls (zM 114).1.name (zM 114).2.1 (zM 114).2.2.2.2.1 tb_X11_isUsed := zTok_of [695] [] (by decide +kernel) (by decide +kernel) (by decide +kernel) (by decide +kernel) (by decide +kernel) (by decide +kernel)
theorem ok_X11_isUsed : zMok zM 114 := ⟨tk_X11_isUsed_0, by decide +kernel, ⟨by decide +kernel, by decide +kernel⟩, by decide +kernel, by decide +kernel⟩
set_option maxRecDepth 100000 in
theorem tk_X11_lookAtRow_0 : zTok zM (zM 115).1.cls (zM 115).1.name (zM 115).2.1 (zM 115).2.2.2.2.1 tb_X11_lookAtRow_0 := zTok_of [679, 880, 882, 21, 45, 883, 695, 884, 886, 22, 45, 887, 694, 693, 697, 693, 697, 696, 695] [] (by decide +kernel) (by decide +kernel) (by decide +kernel) (by decide +kernel) (by decide +kernel) (by decide +kernel)
set_option maxRecDepth 100000 in
theorem tk_X11_lookAtRow_1 : zTok zM (zM 115).1.cls (zM 115).1.name (zM 115).2.1 (zM 115).2.2.2.2.1 tb_X11_lookAtRow_1 := zTok_of [] [] (by decide +kernel) (by decide +kernel) (by decide +kernel) (by decide +kernel) (by decide +kernel) (by decide +kernel)
theorem ok_X11_lookAtRow : zMok zM 115 := ⟨zTok_app (tk_X11_lookAtRow_0) tk_X11_lookAtRow_1, by decide +kernel, ⟨by decide +kernel, by decide +kernel⟩, by decide +kernel, by decide +kernel⟩
set_option maxRecDepth 100000 in
theorem tk_X11_seekNever_0 : zTok zM (zM 116).1.cls (zM 116).1.name (zM 116).2.1 (zM 116).2.2.2.2.1 tb_X11_seekNever_0 := zTok_of [697, 695, 695, 695, 673, 695, 911, 913, 26, 45, 914] [] (by decide +kernel) (by decide +kernel) (by decide +kernel) (by decide +kernel) (by decide +kernel) (by decide +kernel)
set_option maxRecDepth 100000 in
theorem tk_X11_seekNever_1 : zTok zM (zM 116).1.cls (zM 116).1.name (zM 116).2.1 (zM 116).2.2.2.2.1 tb_X11_seekNever_1 := zTok_of [915, 917, 27, 45, 918, 695] [] (by decide +kernel) (by decide +kernel) (by decide +kernel) (by decide +kernel) (by decide +kernel) (by decide +kernel)
theorem ok_X11_seekNever : zMok zM 116 := ⟨zTok_app (tk_X11_seekNever_0) tk_X11_seekNever_1, by decide +kernel, ⟨by decide +kernel, by decide +kernel⟩, by decide +kernel, by decide +kernel⟩
set_option maxRecDepth 100000 in
theorem tk_X11_never_0 : zTok zM (zM 117).1.cls (zM 117).1.name (zM 117).2.1 (zM 117).2.2.2.2.1 tb_X11_never_0 := zTok_of [904, 809, 810, 45, 811, 905, 906, 809, 810, 45, 811, 673, 907, 909, 25, 45, 910, 697, 697, 696] [] (by decide +kernel) (by decide +kernel) (by decide +kernel) (by decide +kernel) (by decide +kernel) (by decide +kernel)
set_option maxRecDepth 100000 in
theorem tk_X11_never_1 : zTok zM (zM 117).1.cls (zM 117).1.name (zM 117).2.1 (zM 117).2.2.2.2.1 tb_X11_never_1 := zTok_of [] [] (by decide +kernel) (by decide +kernel) (by decide +kernel) (by decide +kernel) (by decide +kernel) (by decide +kernel)
theorem ok_X11_never : zMok zM 117 := ⟨zTok_app (tk_X11_never_0) tk_X11_never_1, by decide +kernel, ⟨by decide +kernel, by decide +kernel⟩, by decide +kernel, by decide +kernel⟩
set_option maxRecDepth 100000 in
theorem tk_X11_study_0 : zTok zM (zM 118).1.cls (zM 118).1.name (zM 118).2.1 (zM 118).2.2.2.2.1 tb_X11_study_0 := zTok_of [805, 806, 45, 807, 812, 814, 10, 45, 815, 816, 809, 810, 45, 811, 812, 814, 10, 45, 815, 872, 874, 19, 45, 875, 923, 924, 45, 925] [] (by decide +kernel) (by decide +kernel) (by decide +kernel) (by decide +kernel) (by decide +kernel) (by decide +kernel)
set_option maxRecDepth 100000 in
theorem tk_X11_study_1 : zTok zM (zM 118).1.cls (zM 118).1.name (zM 118).2.1 (zM 118).2.2.2.2.1 tb_X11_study_1 := zTok_of [923, 924, 45, 925, 679, 876, 878, 20, 45, 879, 694, 812, 814, 10, 45, 815] [] (by decide +kernel) (by decide +kernel) (by decide +kernel) (by decide +kernel) (by decide +kernel) (by decide +kernel)
theorem ok_X11_study : zMok zM 118 := ⟨zTok_app (tk_X11_study_0) tk_X11_study_1, by decide +kernel, ⟨by decide +kernel, by decide +kernel⟩, by decide +kernel, by decide +kernel⟩
set_option maxRecDepth 100000 in
theorem tk_X11_nextWay_0 : zTok zM (zM 119).1.cls (zM 119).1.name (zM 119).2.1 (zM 119).2.2.2.2.1 tb_X11_nextWay_0 := zTok_of [701, 702, 702, 701, 704, 703, 704, 703] [] (by decide +kernel) (by decide +kernel) (by decide +kernel) (by decide +kernel) (by decide +kernel) (by decide +kernel)
set_option maxRecDepth 100000 in
theorem tk_X11_nextWay_1 : zTok zM (zM 119).1.cls (zM 119).1.name (zM 119).2.1 (zM 119).2.2.2.2.1 tb_X11_nextWay_1 := zTok_of [704, 701, 701, 673, 700, 701, 856, 857, 45, 858, 701, 702] [] (by decide +kernel) (by decide +kernel) (by decide +kernel) (by decide +kernel) (by decide +kernel) (by decide +kernel)
set_option maxRecDepth 100000 in
theorem tk_X11_nextWay_2 : zTok zM (zM 119).1.cls (zM 119).1.name (zM 119).2.1 (zM 119).2.2.2.2.1 tb_X11_nextWay_2 := zTok_of [703, 701, 673] [] (by decide +kernel) (by decide +kernel) (by decide +kernel) (by decide +kernel) (by decide +kernel) (by decide +kernel)
theorem ok_X11_nextWay : zMok zM 119 := ⟨zTok_app (zTok_app (tk_X11_nextWay_0) tk_X11_nextWay_1) tk_X11_nextWay_2, by decide +kernel, ⟨by decide +kernel, by decide +kernel⟩, by decide +kernel, by decide +kernel⟩
set_option maxRecDepth 100000 in
theorem tk_X11_goWay_0 : zTok zM (zM 120).1.cls (zM 120).1.name (zM 120).2.1 (zM 120).2.2.2.2.1 tb_X11_goWay_0 := zTok_of [701, 699, 880, 882, 21, 45, 883, 698, 689, 888, 890, 23, 45, 891, 702, 690, 677, 690, 698] [] (by decide +kernel) (by decide +kernel) (by decide +kernel) (by decide +kernel) (by decide +kernel) (by decide +kernel)
set_option maxRecDepth 100000 in
theorem tk_X11_goWay_1 : zTok zM (zM 120).1.cls (zM 120).1.name (zM 120).2.1 (zM 120).2.2.2.2.1 tb_X11_goWay_1 := zTok_of [689, 699, 690, 700, 700, 701, 704] [] (by decide +kernel) (by decide +kernel) (by decide +kernel) (by decide +kernel) (by decide +kernel) (by decide +kernel)
set_option maxRecDepth 100000 in
theorem tk_X11_goWay_2 : zTok zM (zM 120).1.cls (zM 120).1.name (zM 120).2.1 (zM 120).2.2.2.2.1 tb_X11_goWay_2 := zTok_of [] [] (by decide +kernel) (by decide +kernel) (by decide +kernel) (by decide +kernel) (by decide +kernel) (by decide +kernel)
theorem ok_X11_goWay : zMok zM 120 := ⟨zTok_app (zTok_app (tk_X11_goWay_0) tk_X11_goWay_1) tk_X11_goWay_2, by decide +kernel, ⟨by decide +kernel, by decide +kernel⟩, by decide +kernel, by decide +kernel⟩
