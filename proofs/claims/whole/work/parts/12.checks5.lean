set_option maxRecDepth 100000 in
theorem tk_L_law_0 : zTok zM RL "law" code ret tb_L_law_0 := zTok_of [51, 52, 35, 53, 54, 35, 55, 660, 661, 44, 662, 663, 44, 664] [] (by decide +kernel) (by decide +kernel) (by decide +kernel) (by decide +kernel) (by decide +kernel) (by decide +kernel)
set_option maxRecDepth 100000 in
theorem tk_L_law_1 : zTok zM RL "law" code ret tb_L_law_1 := zTok_of [259, 260, 261, 35, 262, 796, 797, 798, 44, 799] [] (by decide +kernel) (by decide +kernel) (by decide +kernel) (by decide +kernel) (by decide +kernel) (by decide +kernel)
set_option maxRecDepth 100000 in
theorem tk_L_law_2 : zTok zM RL "law" code ret tb_L_law_2 := zTok_of [374, 375, 376, 35, 377, 839, 840, 841, 44, 842, 417, 418, 419, 35, 420] [] (by decide +kernel) (by decide +kernel) (by decide +kernel) (by decide +kernel) (by decide +kernel) (by decide +kernel)
set_option maxRecDepth 100000 in
theorem tk_L_law_3 : zTok zM RL "law" code ret tb_L_law_3 := zTok_of [854, 855, 856, 44, 857, 422, 423, 424, 35, 425] [] (by decide +kernel) (by decide +kernel) (by decide +kernel) (by decide +kernel) (by decide +kernel) (by decide +kernel)
set_option maxRecDepth 100000 in
theorem tk_L_law_4 : zTok zM RL "law" code ret tb_L_law_4 := zTok_of [859, 860, 861, 44, 862, 426, 427, 428, 35, 429] [] (by decide +kernel) (by decide +kernel) (by decide +kernel) (by decide +kernel) (by decide +kernel) (by decide +kernel)
set_option maxRecDepth 100000 in
theorem tk_L_law_5 : zTok zM RL "law" code ret tb_L_law_5 := zTok_of [863, 864, 865, 44, 866] [] (by decide +kernel) (by decide +kernel) (by decide +kernel) (by decide +kernel) (by decide +kernel) (by decide +kernel)
set_option maxRecDepth 100000 in
theorem tk_L_law_6 : zTok zM RL "law" code ret tb_L_law_6 := zTok_of [458, 459, 460, 35, 461, 891, 892, 893, 44, 894] [] (by decide +kernel) (by decide +kernel) (by decide +kernel) (by decide +kernel) (by decide +kernel) (by decide +kernel)
set_option maxRecDepth 100000 in
theorem tk_L_law_7 : zTok zM RL "law" code ret tb_L_law_7 := zTok_of [462, 463, 464, 35, 465, 895, 896, 897, 44, 898, 486, 487, 488, 35, 489] [] (by decide +kernel) (by decide +kernel) (by decide +kernel) (by decide +kernel) (by decide +kernel) (by decide +kernel)
set_option maxRecDepth 100000 in
theorem tk_L_law_8 : zTok zM RL "law" code ret tb_L_law_8 := zTok_of [914, 915, 916, 44, 917, 496, 497, 498, 35, 499, 921, 922, 923, 44, 924] [] (by decide +kernel) (by decide +kernel) (by decide +kernel) (by decide +kernel) (by decide +kernel) (by decide +kernel)
set_option maxRecDepth 100000 in
theorem tk_L_law_9 : zTok zM RL "law" code ret tb_L_law_9 := zTok_of [519, 520, 521, 35, 522, 937, 938, 939, 44, 940] [] (by decide +kernel) (by decide +kernel) (by decide +kernel) (by decide +kernel) (by decide +kernel) (by decide +kernel)
set_option maxRecDepth 100000 in
theorem tk_L_law_10 : zTok zM RL "law" code ret tb_L_law_10 := zTok_of [534, 535, 536, 35, 537, 950, 951, 952, 44, 953] [] (by decide +kernel) (by decide +kernel) (by decide +kernel) (by decide +kernel) (by decide +kernel) (by decide +kernel)
set_option maxRecDepth 100000 in
theorem tk_L_law_11 : zTok zM RL "law" code ret tb_L_law_11 := zTok_of [542, 543, 544, 35, 545, 955, 956, 957, 44, 958, 546, 547, 548, 35, 549, 959, 960, 961, 44, 962] [] (by decide +kernel) (by decide +kernel) (by decide +kernel) (by decide +kernel) (by decide +kernel) (by decide +kernel)
set_option maxRecDepth 100000 in
theorem tk_L_law_12 : zTok zM RL "law" code ret tb_L_law_12 := zTok_of [554, 555, 556, 35, 557, 967, 968, 969, 44, 970, 567, 568, 569, 35, 570] [] (by decide +kernel) (by decide +kernel) (by decide +kernel) (by decide +kernel) (by decide +kernel) (by decide +kernel)
set_option maxRecDepth 100000 in
theorem tk_L_law_13 : zTok zM RL "law" code ret tb_L_law_13 := zTok_of [971, 972, 973, 44, 974, 576, 577, 578, 35, 579, 975, 976, 977, 44, 978] [] (by decide +kernel) (by decide +kernel) (by decide +kernel) (by decide +kernel) (by decide +kernel) (by decide +kernel)
set_option maxRecDepth 100000 in
theorem tk_L_law_14 : zTok zM RL "law" code ret tb_L_law_14 := zTok_of [585, 586, 587, 35, 588, 983, 984, 985, 44, 986] [] (by decide +kernel) (by decide +kernel) (by decide +kernel) (by decide +kernel) (by decide +kernel) (by decide +kernel)
set_option maxRecDepth 100000 in
theorem tk_L_law_15 : zTok zM RL "law" code ret tb_L_law_15 := zTok_of [590, 591, 592, 35, 593] [] (by decide +kernel) (by decide +kernel) (by decide +kernel) (by decide +kernel) (by decide +kernel) (by decide +kernel)
set_option maxRecDepth 100000 in
theorem tk_L_law_16 : zTok zM RL "law" code ret tb_L_law_16 := zTok_of [991, 992, 993, 44, 994, 596, 597, 598, 35, 599, 995, 996, 997, 44, 998, 626, 627, 628, 35, 629] [] (by decide +kernel) (by decide +kernel) (by decide +kernel) (by decide +kernel) (by decide +kernel) (by decide +kernel)
set_option maxRecDepth 100000 in
theorem tk_L_law_17 : zTok zM RL "law" code ret tb_L_law_17 := zTok_of [1003, 1004, 1005, 44, 1006, 639, 640, 641, 35, 642, 1007, 1008, 1009, 44, 1010, 648, 649, 650, 35, 651] [] (by decide +kernel) (by decide +kernel) (by decide +kernel) (by decide +kernel) (by decide +kernel) (by decide +kernel)
set_option maxRecDepth 100000 in
theorem tk_L_law_18 : zTok zM RL "law" code ret tb_L_law_18 := zTok_of [1011, 1012, 1013, 44, 1014, 652, 653, 654, 35, 655, 1015, 1016, 1017, 44, 1018, 656, 657, 658, 35, 659, 1019, 1020, 1021, 44, 1022] [] (by decide +kernel) (by decide +kernel) (by decide +kernel) (by decide +kernel) (by decide +kernel) (by decide +kernel)
theorem ok_L_law : zTok zM RL "law" code ret tb_L_law := zTok_app (zTok_app (zTok_app (zTok_app (zTok_app (zTok_app (zTok_app (zTok_app (zTok_app (zTok_app (zTok_app (zTok_app (zTok_app (zTok_app (zTok_app (zTok_app (zTok_app (zTok_app (tk_L_law_0) tk_L_law_1) tk_L_law_2) tk_L_law_3) tk_L_law_4) tk_L_law_5) tk_L_law_6) tk_L_law_7) tk_L_law_8) tk_L_law_9) tk_L_law_10) tk_L_law_11) tk_L_law_12) tk_L_law_13) tk_L_law_14) tk_L_law_15) tk_L_law_16) tk_L_law_17) tk_L_law_18
theorem zM_big (k : Nat) : zMok zM (k + 144) := by
  have e : zM (k + 144) = (⟨"X", "x", "()V"⟩, ByteArray.empty, 0, 0, none, []) := by
    unfold zM
    rw [List.getD_eq_getElem?_getD, List.getElem?_eq_none (by show 144 ≤ k + 144; omega)]
    rfl
  unfold zMok
  rw [e]
  exact ⟨fun q hq => by simp at hq, by decide +kernel, ⟨by decide +kernel, by decide +kernel⟩, by decide +kernel, by decide +kernel⟩
theorem zM_ok : ∀ mid, zMok zM mid := fun mid => match mid with
  | 0 => ok_X0_init
  | 1 => ok_X0_kind
  | 2 => ok_X0_isAnswered
  | 3 => ok_X0_oddsUnanswered
  | 4 => ok_X0_telling
  | 5 => ok_X1_init
  | 6 => ok_X1_taleAt
  | 7 => ok_X1_firstFault
  | 8 => ok_X1_goesOn
  | 9 => ok_X1_grow
  | 10 => ok_X1_newTale
  | 11 => ok_X2_init
  | 12 => ok_X2_farByBestPlay
  | 13 => ok_X2_leastFar
  | 14 => ok_X2_mostFar
  | 15 => ok_X3_init
  | 16 => ok_X3_seek
  | 17 => ok_X3_goOn
  | 18 => ok_X4_init
  | 19 => ok_X4_begin
  | 20 => ok_X4_takeUp
  | 21 => ok_X4_hear
  | 22 => ok_X4_learn
  | 23 => ok_X4_walk
  | 24 => ok_X5_init
  | 25 => ok_X5_kind
  | 26 => ok_X5_isAnswered
  | 27 => ok_X5_telling
  | 28 => ok_X5_whispering
  | 29 => ok_X6_init
  | 30 => ok_X6_add
  | 31 => ok_X7_init
  | 32 => ok_X7_isNothing
  | 33 => ok_X7_clear
  | 34 => ok_X7_renew
  | 35 => ok_X7_hasCell
  | 36 => ok_X7_hasCells
  | 37 => ok_X7_faultOfLane
  | 38 => ok_X7_faultOfCells
  | 39 => ok_X7_read
  | 40 => ok_X7_write
  | 41 => ok_X8_init
  | 42 => ok_X8_kind
  | 43 => ok_X8_isAnswered
  | 44 => ok_X8_hasEitherNeed
  | 45 => ok_X8_oddsUnanswered
  | 46 => ok_X8_telling
  | 47 => ok_X8_plainTelling
  | 48 => ok_X8_whispering
  | 49 => ok_X9_init
  | 50 => ok_X9_leave
  | 51 => ok_X10_init
  | 52 => ok_X10_forest
  | 53 => ok_X10_ofTale
  | 54 => ok_X10_know
  | 55 => ok_X10_believe
  | 56 => ok_X10_night
  | 57 => ok_X10_comes
  | 58 => ok_X10_takeOrder
  | 59 => ok_X10_passNight
  | 60 => ok_X10_never
  | 61 => ok_X10_study
  | 62 => ok_X10_game
  | 63 => ok_X10_porter
  | 64 => ok_X10_reading
  | 65 => ok_X10_back
  | 66 => ok_X10_fits
  | 67 => ok_X10_fitsReadings
  | 68 => ok_X10_sheet
  | 69 => ok_X10_lose
  | 70 => ok_X10_put
  | 71 => ok_X10_cell
  | 72 => ok_X10_copy
  | 73 => ok_X10_tell
  | 74 => ok_X10_whisper
  | 75 => ok_X10_as
  | 76 => ok_X10_trace
  | 77 => ok_X10_fault
  | 78 => ok_X10_many
  | 79 => ok_X10_sheetAt
  | 80 => ok_X10_failing
  | 81 => ok_X10_isWithin
  | 82 => ok_X10_has
  | 83 => ok_X10_isOfKind
  | 84 => ok_X10_newNights
  | 85 => ok_X11_init
  | 86 => ok_X11_in
  | 87 => ok_X11_lost
  | 88 => ok_X11_isIn
  | 89 => ok_X11_bits
  | 90 => ok_X11_told
  | 91 => ok_X11_refused
  | 92 => ok_X11_failed
  | 93 => ok_X11_failedLong
  | 94 => ok_X11_noTale
  | 95 => ok_X11_codeAt
  | 96 => ok_X11_figure
  | 97 => ok_X11_readsTale
  | 98 => ok_X11_readsForest
  | 99 => ok_X11_cellsBarred
  | 100 => ok_X11_forest
  | 101 => ok_X11_hasAnswer
  | 102 => ok_X11_ofTale
  | 103 => ok_X11_know
  | 104 => ok_X11_believe
  | 105 => ok_X11_beginNight
  | 106 => ok_X11_goSteps
  | 107 => ok_X11_goTale
  | 108 => ok_X11_goHeard
  | 109 => ok_X11_goOrder
  | 110 => ok_X11_orderBarred
  | 111 => ok_X11_night
  | 112 => ok_X11_comes
  | 113 => ok_X11_isUsed
  | 114 => ok_X11_lookAtRow
  | 115 => ok_X11_seekNever
  | 116 => ok_X11_never
  | 117 => ok_X11_study
  | 118 => ok_X11_nextWay
  | 119 => ok_X11_goWay
  | 120 => ok_X11_play
  | 121 => ok_X11_game
  | 122 => ok_X11_porter
  | 123 => ok_X11_reading
  | 124 => ok_X11_back
  | 125 => ok_X11_areSo
  | 126 => ok_X11_fits
  | 127 => ok_X11_noSheet
  | 128 => ok_X11_sheet
  | 129 => ok_X11_lose
  | 130 => ok_X11_noCell
  | 131 => ok_X11_put
  | 132 => ok_X11_cell
  | 133 => ok_X11_isBeyond
  | 134 => ok_X11_copy
  | 135 => ok_X11_traced
  | 136 => ok_X11_tell
  | 137 => ok_X11_whisper
  | 138 => ok_X11_as
  | 139 => ok_X11_trace
  | 140 => ok_X11_fault
  | 141 => ok_X11_many
  | 142 => ok_J6_bitCount_0f7a4
  | 143 => ok_J7_fill_53178
  | k + 144 => zM_big k
