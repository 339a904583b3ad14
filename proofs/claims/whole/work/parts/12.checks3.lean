set_option maxRecDepth 100000 in
theorem tk_X11_hasAnswer_0 : zTok zM (zM 101).1.cls (zM 101).1.name (zM 101).2.1 (zM 101).2.2.2.2.1 tb_X11_hasAnswer_0 := zTok_of [670, 851, 852, 44, 853, 671, 851, 852, 44, 853, 669, 669, 851, 852, 44, 853] [] (by decide +kernel) (by decide +kernel) (by decide +kernel) (by decide +kernel) (by decide +kernel) (by decide +kernel)
set_option maxRecDepth 100000 in
theorem tk_X11_hasAnswer_1 : zTok zM (zM 101).1.cls (zM 101).1.name (zM 101).2.1 (zM 101).2.2.2.2.1 tb_X11_hasAnswer_1 := zTok_of [] [] (by decide +kernel) (by decide +kernel) (by decide +kernel) (by decide +kernel) (by decide +kernel) (by decide +kernel)
theorem ok_X11_hasAnswer : zMok zM 101 := ⟨zTok_app (tk_X11_hasAnswer_0) tk_X11_hasAnswer_1, by decide +kernel, ⟨by decide +kernel, by decide +kernel⟩, by decide +kernel, by decide +kernel⟩
set_option maxRecDepth 100000 in
theorem tk_X11_ofTale_0 : zTok zM (zM 102).1.cls (zM 102).1.name (zM 102).2.1 (zM 102).2.2.2.2.1 tb_X11_ofTale_0 := zTok_of [843, 845, 16, 44, 846, 669, 670, 671, 672, 673, 674, 847, 849, 17, 44, 850] [] (by decide +kernel) (by decide +kernel) (by decide +kernel) (by decide +kernel) (by decide +kernel) (by decide +kernel)
set_option maxRecDepth 100000 in
theorem tk_X11_ofTale_1 : zTok zM (zM 102).1.cls (zM 102).1.name (zM 102).2.1 (zM 102).2.2.2.2.1 tb_X11_ofTale_1 := zTok_of [] [] (by decide +kernel) (by decide +kernel) (by decide +kernel) (by decide +kernel) (by decide +kernel) (by decide +kernel)
theorem ok_X11_ofTale : zMok zM 102 := ⟨zTok_app (tk_X11_ofTale_0) tk_X11_ofTale_1, by decide +kernel, ⟨by decide +kernel, by decide +kernel⟩, by decide +kernel, by decide +kernel⟩
set_option maxRecDepth 100000 in
theorem tk_X11_know_0 : zTok zM (zM 103).1.cls (zM 103).1.name (zM 103).2.1 (zM 103).2.2.2.2.1 tb_X11_know_0 := zTok_of [858, 804, 805, 44, 806, 668, 674, 851, 852, 44, 853, 674, 674, 674] [] (by decide +kernel) (by decide +kernel) (by decide +kernel) (by decide +kernel) (by decide +kernel) (by decide +kernel)
set_option maxRecDepth 100000 in
theorem tk_X11_know_1 : zTok zM (zM 103).1.cls (zM 103).1.name (zM 103).2.1 (zM 103).2.2.2.2.1 tb_X11_know_1 := zTok_of [] [] (by decide +kernel) (by decide +kernel) (by decide +kernel) (by decide +kernel) (by decide +kernel) (by decide +kernel)
theorem ok_X11_know : zMok zM 103 := ⟨zTok_app (tk_X11_know_0) tk_X11_know_1, by decide +kernel, ⟨by decide +kernel, by decide +kernel⟩, by decide +kernel, by decide +kernel⟩
set_option maxRecDepth 100000 in
theorem tk_X11_believe_0 : zTok zM (zM 104).1.cls (zM 104).1.name (zM 104).2.1 (zM 104).2.2.2.2.1 tb_X11_believe_0 := zTok_of [858, 804, 805, 44, 806, 668, 675, 851, 852, 44, 853, 675, 675, 675] [] (by decide +kernel) (by decide +kernel) (by decide +kernel) (by decide +kernel) (by decide +kernel) (by decide +kernel)
set_option maxRecDepth 100000 in
theorem tk_X11_believe_1 : zTok zM (zM 104).1.cls (zM 104).1.name (zM 104).2.1 (zM 104).2.2.2.2.1 tb_X11_believe_1 := zTok_of [] [] (by decide +kernel) (by decide +kernel) (by decide +kernel) (by decide +kernel) (by decide +kernel) (by decide +kernel)
theorem ok_X11_believe : zMok zM 104 := ⟨zTok_app (tk_X11_believe_0) tk_X11_believe_1, by decide +kernel, ⟨by decide +kernel, by decide +kernel⟩, by decide +kernel, by decide +kernel⟩
set_option maxRecDepth 100000 in
theorem tk_X11_beginNight_0 : zTok zM (zM 105).1.cls (zM 105).1.name (zM 105).2.1 (zM 105).2.2.2.2.1 tb_X11_beginNight := zTok_of [684, 685, 686, 687, 688, 689] [] (by decide +kernel) (by decide +kernel) (by decide +kernel) (by decide +kernel) (by decide +kernel) (by decide +kernel)
theorem ok_X11_beginNight : zMok zM 105 := ⟨tk_X11_beginNight_0, by decide +kernel, ⟨by decide +kernel, by decide +kernel⟩, by decide +kernel, by decide +kernel⟩
set_option maxRecDepth 100000 in
theorem tk_X11_goSteps_0 : zTok zM (zM 106).1.cls (zM 106).1.name (zM 106).2.1 (zM 106).2.2.2.2.1 tb_X11_goSteps := zTok_of [684, 684, 684, 667, 689, 689, 667, 684, 684] [] (by decide +kernel) (by decide +kernel) (by decide +kernel) (by decide +kernel) (by decide +kernel) (by decide +kernel)
theorem ok_X11_goSteps : zMok zM 106 := ⟨tk_X11_goSteps_0, by decide +kernel, ⟨by decide +kernel, by decide +kernel⟩, by decide +kernel, by decide +kernel⟩
set_option maxRecDepth 100000 in
theorem tk_X11_goTale_0 : zTok zM (zM 107).1.cls (zM 107).1.name (zM 107).2.1 (zM 107).2.2.2.2.1 tb_X11_goTale_0 := zTok_of [673, 887, 889, 23, 44, 890, 689, 685, 686, 847, 849, 17, 44, 850, 684, 688, 688, 675, 670, 851, 852, 44, 853, 675] [] (by decide +kernel) (by decide +kernel) (by decide +kernel) (by decide +kernel) (by decide +kernel) (by decide +kernel)
set_option maxRecDepth 100000 in
theorem tk_X11_goTale_1 : zTok zM (zM 107).1.cls (zM 107).1.name (zM 107).2.1 (zM 107).2.2.2.2.1 tb_X11_goTale_1 := zTok_of [671, 851, 852, 44, 853, 887, 889, 23, 44, 890] [] (by decide +kernel) (by decide +kernel) (by decide +kernel) (by decide +kernel) (by decide +kernel) (by decide +kernel)
theorem ok_X11_goTale : zMok zM 107 := ⟨zTok_app (tk_X11_goTale_0) tk_X11_goTale_1, by decide +kernel, ⟨by decide +kernel, by decide +kernel⟩, by decide +kernel, by decide +kernel⟩
set_option maxRecDepth 100000 in
theorem tk_X11_goHeard_0 : zTok zM (zM 108).1.cls (zM 108).1.name (zM 108).2.1 (zM 108).2.2.2.2.1 tb_X11_goHeard := zTok_of [689, 883, 885, 22, 44, 886, 685, 672, 685, 686, 686, 687, 687] [] (by decide +kernel) (by decide +kernel) (by decide +kernel) (by decide +kernel) (by decide +kernel) (by decide +kernel)
theorem ok_X11_goHeard : zMok zM 108 := ⟨tk_X11_goHeard_0, by decide +kernel, ⟨by decide +kernel, by decide +kernel⟩, by decide +kernel, by decide +kernel⟩
set_option maxRecDepth 100000 in
theorem tk_X11_goOrder_0 : zTok zM (zM 109).1.cls (zM 109).1.name (zM 109).2.1 (zM 109).2.2.2.2.1 tb_X11_goOrder := zTok_of [875, 877, 20, 44, 878, 706, 879, 881, 21, 44, 882] [] (by decide +kernel) (by decide +kernel) (by decide +kernel) (by decide +kernel) (by decide +kernel) (by decide +kernel)
theorem ok_X11_goOrder : zMok zM 109 := ⟨tk_X11_goOrder_0, by decide +kernel, ⟨by decide +kernel, by decide +kernel⟩, by decide +kernel, by decide +kernel⟩
set_option maxRecDepth 100000 in
theorem tk_X11_orderBarred_0 : zTok zM (zM 110).1.cls (zM 110).1.name (zM 110).2.1 (zM 110).2.2.2.2.1 tb_X11_orderBarred_0 := zTok_of [668, 807, 809, 9, 44, 810, 812, 814, 10, 44, 815, 807, 809, 9, 44, 810, 706] [] (by decide +kernel) (by decide +kernel) (by decide +kernel) (by decide +kernel) (by decide +kernel) (by decide +kernel)
set_option maxRecDepth 100000 in
theorem tk_X11_orderBarred_1 : zTok zM (zM 110).1.cls (zM 110).1.name (zM 110).2.1 (zM 110).2.2.2.2.1 tb_X11_orderBarred_1 := zTok_of [843, 845, 16, 44, 846, 807, 809, 9, 44, 810, 807, 809, 9, 44, 810] [] (by decide +kernel) (by decide +kernel) (by decide +kernel) (by decide +kernel) (by decide +kernel) (by decide +kernel)
theorem ok_X11_orderBarred : zMok zM 110 := ⟨zTok_app (tk_X11_orderBarred_0) tk_X11_orderBarred_1, by decide +kernel, ⟨by decide +kernel, by decide +kernel⟩, by decide +kernel, by decide +kernel⟩
set_option maxRecDepth 100000 in
theorem tk_X11_night_0 : zTok zM (zM 111).1.cls (zM 111).1.name (zM 111).2.1 (zM 111).2.2.2.2.1 tb_X11_night_0 := zTok_of [800, 801, 44, 802, 807, 809, 9, 44, 810, 811, 804, 805, 44, 806, 803, 804, 805, 44, 806, 807, 809, 9, 44, 810, 867, 869, 18, 44, 870] [] (by decide +kernel) (by decide +kernel) (by decide +kernel) (by decide +kernel) (by decide +kernel) (by decide +kernel)
set_option maxRecDepth 100000 in
theorem tk_X11_night_1 : zTok zM (zM 111).1.cls (zM 111).1.name (zM 111).2.1 (zM 111).2.2.2.2.1 tb_X11_night_1 := zTok_of [674, 871, 873, 19, 44, 874, 684, 688, 687, 685] [] (by decide +kernel) (by decide +kernel) (by decide +kernel) (by decide +kernel) (by decide +kernel) (by decide +kernel)
theorem ok_X11_night : zMok zM 111 := ⟨zTok_app (tk_X11_night_0) tk_X11_night_1, by decide +kernel, ⟨by decide +kernel, by decide +kernel⟩, by decide +kernel, by decide +kernel⟩
set_option maxRecDepth 100000 in
theorem tk_X11_comes_0 : zTok zM (zM 112).1.cls (zM 112).1.name (zM 112).2.1 (zM 112).2.2.2.2.1 tb_X11_comes_0 := zTok_of [800, 801, 44, 802, 807, 809, 9, 44, 810, 811, 804, 805, 44, 806, 807, 809, 9, 44, 810, 867, 869, 18, 44, 870, 674, 871, 873, 19, 44, 874, 689] [] (by decide +kernel) (by decide +kernel) (by decide +kernel) (by decide +kernel) (by decide +kernel) (by decide +kernel)
set_option maxRecDepth 100000 in
theorem tk_X11_comes_1 : zTok zM (zM 112).1.cls (zM 112).1.name (zM 112).2.1 (zM 112).2.2.2.2.1 tb_X11_comes_1 := zTok_of [] [] (by decide +kernel) (by decide +kernel) (by decide +kernel) (by decide +kernel) (by decide +kernel) (by decide +kernel)
theorem ok_X11_comes : zMok zM 112 := ⟨zTok_app (tk_X11_comes_0) tk_X11_comes_1, by decide +kernel, ⟨by decide +kernel, by decide +kernel⟩, by decide +kernel, by decide +kernel⟩
set_option maxRecDepth 100000 in
theorem tk_X11_isUsed_0 : zTok zM (zM 113).1.cls (zM 113).1.name (zM 113).2.1 (zM 113).2.2.2.2.1 tb_X11_isUsed := zTok_of [690] [] (by decide +kernel) (by decide +kernel) (by decide +kernel) (by decide +kernel) (by decide +kernel) (by decide +kernel)
theorem ok_X11_isUsed : zMok zM 113 := ⟨tk_X11_isUsed_0, by decide +kernel, ⟨by decide +kernel, by decide +kernel⟩, by decide +kernel, by decide +kernel⟩
set_option maxRecDepth 100000 in
theorem tk_X11_lookAtRow_0 : zTok zM (zM 114).1.cls (zM 114).1.name (zM 114).2.1 (zM 114).2.2.2.2.1 tb_X11_lookAtRow_0 := zTok_of [674, 875, 877, 20, 44, 878, 690, 879, 881, 21, 44, 882, 689, 688, 692, 688, 692, 691, 690] [] (by decide +kernel) (by decide +kernel) (by decide +kernel) (by decide +kernel) (by decide +kernel) (by decide +kernel)
set_option maxRecDepth 100000 in
theorem tk_X11_lookAtRow_1 : zTok zM (zM 114).1.cls (zM 114).1.name (zM 114).2.1 (zM 114).2.2.2.2.1 tb_X11_lookAtRow_1 := zTok_of [] [] (by decide +kernel) (by decide +kernel) (by decide +kernel) (by decide +kernel) (by decide +kernel) (by decide +kernel)
theorem ok_X11_lookAtRow : zMok zM 114 := ⟨zTok_app (tk_X11_lookAtRow_0) tk_X11_lookAtRow_1, by decide +kernel, ⟨by decide +kernel, by decide +kernel⟩, by decide +kernel, by decide +kernel⟩
set_option maxRecDepth 100000 in
theorem tk_X11_seekNever_0 : zTok zM (zM 115).1.cls (zM 115).1.name (zM 115).2.1 (zM 115).2.2.2.2.1 tb_X11_seekNever_0 := zTok_of [692, 690, 690, 690, 668, 690, 906, 908, 25, 44, 909] [] (by decide +kernel) (by decide +kernel) (by decide +kernel) (by decide +kernel) (by decide +kernel) (by decide +kernel)
set_option maxRecDepth 100000 in
theorem tk_X11_seekNever_1 : zTok zM (zM 115).1.cls (zM 115).1.name (zM 115).2.1 (zM 115).2.2.2.2.1 tb_X11_seekNever_1 := zTok_of [910, 912, 26, 44, 913, 690] [] (by decide +kernel) (by decide +kernel) (by decide +kernel) (by decide +kernel) (by decide +kernel) (by decide +kernel)
theorem ok_X11_seekNever : zMok zM 115 := ⟨zTok_app (tk_X11_seekNever_0) tk_X11_seekNever_1, by decide +kernel, ⟨by decide +kernel, by decide +kernel⟩, by decide +kernel, by decide +kernel⟩
set_option maxRecDepth 100000 in
theorem tk_X11_never_0 : zTok zM (zM 116).1.cls (zM 116).1.name (zM 116).2.1 (zM 116).2.2.2.2.1 tb_X11_never_0 := zTok_of [899, 804, 805, 44, 806, 900, 901, 804, 805, 44, 806, 668, 902, 904, 24, 44, 905, 692, 692, 691] [] (by decide +kernel) (by decide +kernel) (by decide +kernel) (by decide +kernel) (by decide +kernel) (by decide +kernel)
set_option maxRecDepth 100000 in
theorem tk_X11_never_1 : zTok zM (zM 116).1.cls (zM 116).1.name (zM 116).2.1 (zM 116).2.2.2.2.1 tb_X11_never_1 := zTok_of [] [] (by decide +kernel) (by decide +kernel) (by decide +kernel) (by decide +kernel) (by decide +kernel) (by decide +kernel)
theorem ok_X11_never : zMok zM 116 := ⟨zTok_app (tk_X11_never_0) tk_X11_never_1, by decide +kernel, ⟨by decide +kernel, by decide +kernel⟩, by decide +kernel, by decide +kernel⟩
set_option maxRecDepth 100000 in
theorem tk_X11_study_0 : zTok zM (zM 117).1.cls (zM 117).1.name (zM 117).2.1 (zM 117).2.2.2.2.1 tb_X11_study_0 := zTok_of [800, 801, 44, 802, 807, 809, 9, 44, 810, 811, 804, 805, 44, 806, 807, 809, 9, 44, 810, 867, 869, 18, 44, 870, 918, 919, 44, 920] [] (by decide +kernel) (by decide +kernel) (by decide +kernel) (by decide +kernel) (by decide +kernel) (by decide +kernel)
set_option maxRecDepth 100000 in
theorem tk_X11_study_1 : zTok zM (zM 117).1.cls (zM 117).1.name (zM 117).2.1 (zM 117).2.2.2.2.1 tb_X11_study_1 := zTok_of [918, 919, 44, 920, 674, 871, 873, 19, 44, 874, 689, 807, 809, 9, 44, 810] [] (by decide +kernel) (by decide +kernel) (by decide +kernel) (by decide +kernel) (by decide +kernel) (by decide +kernel)
theorem ok_X11_study : zMok zM 117 := ⟨zTok_app (tk_X11_study_0) tk_X11_study_1, by decide +kernel, ⟨by decide +kernel, by decide +kernel⟩, by decide +kernel, by decide +kernel⟩
set_option maxRecDepth 100000 in
theorem tk_X11_nextWay_0 : zTok zM (zM 118).1.cls (zM 118).1.name (zM 118).2.1 (zM 118).2.2.2.2.1 tb_X11_nextWay_0 := zTok_of [696, 697, 697, 696, 699, 698, 699, 698] [] (by decide +kernel) (by decide +kernel) (by decide +kernel) (by decide +kernel) (by decide +kernel) (by decide +kernel)
set_option maxRecDepth 100000 in
theorem tk_X11_nextWay_1 : zTok zM (zM 118).1.cls (zM 118).1.name (zM 118).2.1 (zM 118).2.2.2.2.1 tb_X11_nextWay_1 := zTok_of [699, 696, 696, 668, 695, 696, 851, 852, 44, 853, 696, 697] [] (by decide +kernel) (by decide +kernel) (by decide +kernel) (by decide +kernel) (by decide +kernel) (by decide +kernel)
set_option maxRecDepth 100000 in
theorem tk_X11_nextWay_2 : zTok zM (zM 118).1.cls (zM 118).1.name (zM 118).2.1 (zM 118).2.2.2.2.1 tb_X11_nextWay_2 := zTok_of [698, 696, 668] [] (by decide +kernel) (by decide +kernel) (by decide +kernel) (by decide +kernel) (by decide +kernel) (by decide +kernel)
theorem ok_X11_nextWay : zMok zM 118 := ⟨zTok_app (zTok_app (tk_X11_nextWay_0) tk_X11_nextWay_1) tk_X11_nextWay_2, by decide +kernel, ⟨by decide +kernel, by decide +kernel⟩, by decide +kernel, by decide +kernel⟩
set_option maxRecDepth 100000 in
theorem tk_X11_goWay_0 : zTok zM (zM 119).1.cls (zM 119).1.name (zM 119).2.1 (zM 119).2.2.2.2.1 tb_X11_goWay_0 := zTok_of [696, 694, 875, 877, 20, 44, 878, 693, 684, 883, 885, 22, 44, 886, 697, 685, 672, 685, 693] [] (by decide +kernel) (by decide +kernel) (by decide +kernel) (by decide +kernel) (by decide +kernel) (by decide +kernel)
set_option maxRecDepth 100000 in
theorem tk_X11_goWay_1 : zTok zM (zM 119).1.cls (zM 119).1.name (zM 119).2.1 (zM 119).2.2.2.2.1 tb_X11_goWay_1 := zTok_of [684, 694, 685, 695, 695, 696, 699] [] (by decide +kernel) (by decide +kernel) (by decide +kernel) (by decide +kernel) (by decide +kernel) (by decide +kernel)
set_option maxRecDepth 100000 in
theorem tk_X11_goWay_2 : zTok zM (zM 119).1.cls (zM 119).1.name (zM 119).2.1 (zM 119).2.2.2.2.1 tb_X11_goWay_2 := zTok_of [] [] (by decide +kernel) (by decide +kernel) (by decide +kernel) (by decide +kernel) (by decide +kernel) (by decide +kernel)
theorem ok_X11_goWay : zMok zM 119 := ⟨zTok_app (zTok_app (tk_X11_goWay_0) tk_X11_goWay_1) tk_X11_goWay_2, by decide +kernel, ⟨by decide +kernel, by decide +kernel⟩, by decide +kernel, by decide +kernel⟩
