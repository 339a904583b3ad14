set_option maxRecDepth 100000 in
theorem tk_L_law_0 : zTok zM RL "law" code ret tb_L_law_0 := zTok_of [52, 53, 36, 54, 55, 36, 56, 665, 666, 45, 667, 668, 45, 669] [] (by decide +kernel) (by decide +kernel) (by decide +kernel) (by decide +kernel) (by decide +kernel) (by decide +kernel)
set_option maxRecDepth 100000 in
theorem tk_L_law_1 : zTok zM RL "law" code ret tb_L_law_1 := zTok_of [260, 261, 262, 36, 263, 801, 802, 803, 45, 804] [] (by decide +kernel) (by decide +kernel) (by decide +kernel) (by decide +kernel) (by decide +kernel) (by decide +kernel)
set_option maxRecDepth 100000 in
theorem tk_L_law_2 : zTok zM RL "law" code ret tb_L_law_2 := zTok_of [375, 376, 377, 36, 378, 844, 845, 846, 45, 847, 418, 419, 420, 36, 421] [] (by decide +kernel) (by decide +kernel) (by decide +kernel) (by decide +kernel) (by decide +kernel) (by decide +kernel)
set_option maxRecDepth 100000 in
theorem tk_L_law_3 : zTok zM RL "law" code ret tb_L_law_3 := zTok_of [859, 860, 861, 45, 862, 423, 424, 425, 36, 426] [] (by decide +kernel) (by decide +kernel) (by decide +kernel) (by decide +kernel) (by decide +kernel) (by decide +kernel)
set_option maxRecDepth 100000 in
theorem tk_L_law_4 : zTok zM RL "law" code ret tb_L_law_4 := zTok_of [864, 865, 866, 45, 867, 427, 428, 429, 36, 430] [] (by decide +kernel) (by decide +kernel) (by decide +kernel) (by decide +kernel) (by decide +kernel) (by decide +kernel)
set_option maxRecDepth 100000 in
theorem tk_L_law_5 : zTok zM RL "law" code ret tb_L_law_5 := zTok_of [868, 869, 870, 45, 871] [] (by decide +kernel) (by decide +kernel) (by decide +kernel) (by decide +kernel) (by decide +kernel) (by decide +kernel)
set_option maxRecDepth 100000 in
theorem tk_L_law_6 : zTok zM RL "law" code ret tb_L_law_6 := zTok_of [459, 460, 461, 36, 462, 896, 897, 898, 45, 899] [] (by decide +kernel) (by decide +kernel) (by decide +kernel) (by decide +kernel) (by decide +kernel) (by decide +kernel)
set_option maxRecDepth 100000 in
theorem tk_L_law_7 : zTok zM RL "law" code ret tb_L_law_7 := zTok_of [463, 464, 465, 36, 466, 900, 901, 902, 45, 903, 491, 492, 493, 36, 494] [] (by decide +kernel) (by decide +kernel) (by decide +kernel) (by decide +kernel) (by decide +kernel) (by decide +kernel)
set_option maxRecDepth 100000 in
theorem tk_L_law_8 : zTok zM RL "law" code ret tb_L_law_8 := zTok_of [919, 920, 921, 45, 922, 501, 502, 503, 36, 504, 926, 927, 928, 45, 929] [] (by decide +kernel) (by decide +kernel) (by decide +kernel) (by decide +kernel) (by decide +kernel) (by decide +kernel)
set_option maxRecDepth 100000 in
theorem tk_L_law_9 : zTok zM RL "law" code ret tb_L_law_9 := zTok_of [524, 525, 526, 36, 527, 942, 943, 944, 45, 945] [] (by decide +kernel) (by decide +kernel) (by decide +kernel) (by decide +kernel) (by decide +kernel) (by decide +kernel)
set_option maxRecDepth 100000 in
theorem tk_L_law_10 : zTok zM RL "law" code ret tb_L_law_10 := zTok_of [539, 540, 541, 36, 542, 955, 956, 957, 45, 958] [] (by decide +kernel) (by decide +kernel) (by decide +kernel) (by decide +kernel) (by decide +kernel) (by decide +kernel)
set_option maxRecDepth 100000 in
theorem tk_L_law_11 : zTok zM RL "law" code ret tb_L_law_11 := zTok_of [547, 548, 549, 36, 550, 960, 961, 962, 45, 963, 551, 552, 553, 36, 554, 964, 965, 966, 45, 967] [] (by decide +kernel) (by decide +kernel) (by decide +kernel) (by decide +kernel) (by decide +kernel) (by decide +kernel)
set_option maxRecDepth 100000 in
theorem tk_L_law_12 : zTok zM RL "law" code ret tb_L_law_12 := zTok_of [559, 560, 561, 36, 562, 972, 973, 974, 45, 975, 572, 573, 574, 36, 575] [] (by decide +kernel) (by decide +kernel) (by decide +kernel) (by decide +kernel) (by decide +kernel) (by decide +kernel)
set_option maxRecDepth 100000 in
theorem tk_L_law_13 : zTok zM RL "law" code ret tb_L_law_13 := zTok_of [976, 977, 978, 45, 979, 581, 582, 583, 36, 584, 980, 981, 982, 45, 983] [] (by decide +kernel) (by decide +kernel) (by decide +kernel) (by decide +kernel) (by decide +kernel) (by decide +kernel)
set_option maxRecDepth 100000 in
theorem tk_L_law_14 : zTok zM RL "law" code ret tb_L_law_14 := zTok_of [590, 591, 592, 36, 593, 988, 989, 990, 45, 991] [] (by decide +kernel) (by decide +kernel) (by decide +kernel) (by decide +kernel) (by decide +kernel) (by decide +kernel)
set_option maxRecDepth 100000 in
theorem tk_L_law_15 : zTok zM RL "law" code ret tb_L_law_15 := zTok_of [595, 596, 597, 36, 598] [] (by decide +kernel) (by decide +kernel) (by decide +kernel) (by decide +kernel) (by decide +kernel) (by decide +kernel)
set_option maxRecDepth 100000 in
theorem tk_L_law_16 : zTok zM RL "law" code ret tb_L_law_16 := zTok_of [996, 997, 998, 45, 999, 601, 602, 603, 36, 604, 1000, 1001, 1002, 45, 1003, 631, 632, 633, 36, 634] [] (by decide +kernel) (by decide +kernel) (by decide +kernel) (by decide +kernel) (by decide +kernel) (by decide +kernel)
set_option maxRecDepth 100000 in
theorem tk_L_law_17 : zTok zM RL "law" code ret tb_L_law_17 := zTok_of [1008, 1009, 1010, 45, 1011, 644, 645, 646, 36, 647, 1012, 1013, 1014, 45, 1015, 653, 654, 655, 36, 656] [] (by decide +kernel) (by decide +kernel) (by decide +kernel) (by decide +kernel) (by decide +kernel) (by decide +kernel)
set_option maxRecDepth 100000 in
theorem tk_L_law_18 : zTok zM RL "law" code ret tb_L_law_18 := zTok_of [1016, 1017, 1018, 45, 1019, 657, 658, 659, 36, 660, 1020, 1021, 1022, 45, 1023, 661, 662, 663, 36, 664, 1024, 1025, 1026, 45, 1027] [] (by decide +kernel) (by decide +kernel) (by decide +kernel) (by decide +kernel) (by decide +kernel) (by decide +kernel)
theorem ok_L_law : zTok zM RL "law" code ret tb_L_law := zTok_app (zTok_app (zTok_app (zTok_app (zTok_app (zTok_app (zTok_app (zTok_app (zTok_app (zTok_app (zTok_app (zTok_app (zTok_app (zTok_app (zTok_app (zTok_app (zTok_app (zTok_app (tk_L_law_0) tk_L_law_1) tk_L_law_2) tk_L_law_3) tk_L_law_4) tk_L_law_5) tk_L_law_6) tk_L_law_7) tk_L_law_8) tk_L_law_9) tk_L_law_10) tk_L_law_11) tk_L_law_12) tk_L_law_13) tk_L_law_14) tk_L_law_15) tk_L_law_16) tk_L_law_17) tk_L_law_18
theorem zM_big (k : Nat) : zMok zM (k + 145) := by
  have e : zM (k + 145) = (⟨"X", "x", "()V"⟩, ByteArray.empty, 0, 0, none, []) := by
    unfold zM
    rw [List.getD_eq_getElem?_getD, List.getElem?_eq_none (by show 145 ≤ k + 145; omega)]
    rfl
  unfold zMok
  rw [e]
  exact ⟨fun q hq => by simp at hq, by decide +kernel, ⟨by decide +kernel, by decide +kernel⟩, by decide +kernel, by decide +kernel⟩
theorem zM_ok : ∀ mid, zMok zM mid := fun mid => match mid with
  | 0 => ok_X0_init
  | 1 => ok_X0_kind
  | 2 => ok_X0_isAnswered
  | 3 => ok_X0_oddsUnanswered
  | 4 => ok_X0_telling
  | 5 => ok_X1_init
  | 6 => ok_X1_taleAt
  | 7 => ok_X1_firstFault
  | 8 => ok_X1_goesOn
  | 9 => ok_X1_grow
  | 10 => ok_X1_newTale
  | 11 => ok_X2_init
  | 12 => ok_X2_farByBestPlay
  | 13 => ok_X2_leastFar
  | 14 => ok_X2_mostFar
  | 15 => ok_X3_init
  | 16 => ok_X3_seek
  | 17 => ok_X3_goOn
  | 18 => ok_X3_tellNext
  | 19 => ok_X4_init
  | 20 => ok_X4_begin
  | 21 => ok_X4_takeUp
  | 22 => ok_X4_hear
  | 23 => ok_X4_learn
  | 24 => ok_X4_walk
  | 25 => ok_X5_init
  | 26 => ok_X5_kind
  | 27 => ok_X5_isAnswered
  | 28 => ok_X5_telling
  | 29 => ok_X5_whispering
  | 30 => ok_X6_init
  | 31 => ok_X6_add
  | 32 => ok_X7_init
  | 33 => ok_X7_isNothing
  | 34 => ok_X7_clear
  | 35 => ok_X7_renew
  | 36 => ok_X7_hasCell
  | 37 => ok_X7_hasCells
  | 38 => ok_X7_faultOfLane
  | 39 => ok_X7_faultOfCells
  | 40 => ok_X7_read
  | 41 => ok_X7_write
  | 42 => ok_X8_init
  | 43 => ok_X8_kind
  | 44 => ok_X8_isAnswered
  | 45 => ok_X8_hasEitherNeed
  | 46 => ok_X8_oddsUnanswered
  | 47 => ok_X8_telling
  | 48 => ok_X8_plainTelling
  | 49 => ok_X8_whispering
  | 50 => ok_X9_init
  | 51 => ok_X9_leave
  | 52 => ok_X10_init
  | 53 => ok_X10_forest
  | 54 => ok_X10_ofTale
  | 55 => ok_X10_know
  | 56 => ok_X10_believe
  | 57 => ok_X10_night
  | 58 => ok_X10_comes
  | 59 => ok_X10_takeOrder
  | 60 => ok_X10_passNight
  | 61 => ok_X10_never
  | 62 => ok_X10_study
  | 63 => ok_X10_game
  | 64 => ok_X10_porter
  | 65 => ok_X10_reading
  | 66 => ok_X10_back
  | 67 => ok_X10_fits
  | 68 => ok_X10_fitsReadings
  | 69 => ok_X10_sheet
  | 70 => ok_X10_lose
  | 71 => ok_X10_put
  | 72 => ok_X10_cell
  | 73 => ok_X10_copy
  | 74 => ok_X10_tell
  | 75 => ok_X10_whisper
  | 76 => ok_X10_as
  | 77 => ok_X10_trace
  | 78 => ok_X10_fault
  | 79 => ok_X10_many
  | 80 => ok_X10_sheetAt
  | 81 => ok_X10_failing
  | 82 => ok_X10_isWithin
  | 83 => ok_X10_has
  | 84 => ok_X10_isOfKind
  | 85 => ok_X10_newNights
  | 86 => ok_X11_init
  | 87 => ok_X11_in
  | 88 => ok_X11_lost
  | 89 => ok_X11_isIn
  | 90 => ok_X11_bits
  | 91 => ok_X11_told
  | 92 => ok_X11_refused
  | 93 => ok_X11_failed
  | 94 => ok_X11_failedLong
  | 95 => ok_X11_noTale
  | 96 => ok_X11_codeAt
  | 97 => ok_X11_figure
  | 98 => ok_X11_readsTale
  | 99 => ok_X11_readsForest
  | 100 => ok_X11_cellsBarred
  | 101 => ok_X11_forest
  | 102 => ok_X11_hasAnswer
  | 103 => ok_X11_ofTale
  | 104 => ok_X11_know
  | 105 => ok_X11_believe
  | 106 => ok_X11_beginNight
  | 107 => ok_X11_goSteps
  | 108 => ok_X11_goTale
  | 109 => ok_X11_goHeard
  | 110 => ok_X11_goOrder
  | 111 => ok_X11_orderBarred
  | 112 => ok_X11_night
  | 113 => ok_X11_comes
  | 114 => ok_X11_isUsed
  | 115 => ok_X11_lookAtRow
  | 116 => ok_X11_seekNever
  | 117 => ok_X11_never
  | 118 => ok_X11_study
  | 119 => ok_X11_nextWay
  | 120 => ok_X11_goWay
  | 121 => ok_X11_play
  | 122 => ok_X11_game
  | 123 => ok_X11_porter
  | 124 => ok_X11_reading
  | 125 => ok_X11_back
  | 126 => ok_X11_areSo
  | 127 => ok_X11_fits
  | 128 => ok_X11_noSheet
  | 129 => ok_X11_sheet
  | 130 => ok_X11_lose
  | 131 => ok_X11_noCell
  | 132 => ok_X11_put
  | 133 => ok_X11_cell
  | 134 => ok_X11_isBeyond
  | 135 => ok_X11_copy
  | 136 => ok_X11_traced
  | 137 => ok_X11_tell
  | 138 => ok_X11_whisper
  | 139 => ok_X11_as
  | 140 => ok_X11_trace
  | 141 => ok_X11_fault
  | 142 => ok_X11_many
  | 143 => ok_J6_bitCount_0f7a4
  | 144 => ok_J7_fill_53178
  | k + 145 => zM_big k
