/-! the tables are the code, and all words that they need are there (written by wip/whole/gen/tables.py) -/
theorem zTok_of {M : Nat → zQ} {own nm : String} {cc : ByteArray} {ret : Option FieldType} {tab : List (Nat × zO)} (is js : List Nat) (h1 : tab.all (fun q => decide (decode cc q.1 = .ok (q.2.1, zlen q.2))) = true)
    (h2 : is.map (fun i => lw_tbl[i]?) = (tab.flatMap fun q => zneed M own q.2).map some) (h3 : (tab.flatMap fun q => zneed M own q.2).all goodWord = true) (h4 : js.map (fun i => lw_tbl[i]?) = (tab.flatMap fun q => zneedN M own q.2).map some)
    (h5 : (tab.flatMap fun q => zeqs M own q.2).all (fun z => decide (z.1 = z.2)) = true) (h6 : tab.all (fun q => zoks M nm ret q.1 q.2) = true) : zTok M own nm cc ret tab := by
  have key : ∀ (is : List Nat) (ws : List Cond), is.map (fun i => lw_tbl[i]?) = ws.map some → ∀ w ∈ ws, w ∈ lw_tbl := by
    intro is ws h w hw
    have h7 : some w ∈ is.map (fun i => lw_tbl[i]?) := by rw [h]; exact List.mem_map.mpr ⟨w, hw, rfl⟩
    obtain ⟨i, -, hi⟩ := List.mem_map.mp h7
    exact List.mem_of_getElem? hi
  intro q hq
  refine ⟨of_decide_eq_true (List.all_eq_true.mp h1 q hq), fun w hw => ?_, fun w hw => key js _ h4 w (List.mem_flatMap.mpr ⟨q, hq, hw⟩), fun z hz => of_decide_eq_true (List.all_eq_true.mp h5 z (List.mem_flatMap.mpr ⟨q, hq, hz⟩)), List.all_eq_true.mp h6 q hq⟩
  have hm : w ∈ tab.flatMap fun q => zneed M own q.2 := List.mem_flatMap.mpr ⟨q, hq, hw⟩
  exact List.mem_filter.mpr ⟨key is _ h2 w hm, List.all_eq_true.mp h3 w hm⟩
theorem zTok_app {M : Nat → zQ} {own nm : String} {cc : ByteArray} {ret : Option FieldType} {a b : List (Nat × zO)} (h1 : zTok M own nm cc ret a) (h2 : zTok M own nm cc ret b) : zTok M own nm cc ret (a ++ b) := fun q hq => (List.mem_append.mp hq).elim (h1 q) (h2 q)
set_option maxRecDepth 100000 in
theorem tk_X0_init_0 : zTok zM (zM 0).1.cls (zM 0).1.name (zM 0).2.1 (zM 0).2.2.2.2.1 tb_X0_init := zTok_of [324, 325, 46, 326] [] (by decide +kernel) (by decide +kernel) (by decide +kernel) (by decide +kernel) (by decide +kernel) (by decide +kernel)
theorem ok_X0_init : zMok zM 0 := ⟨tk_X0_init_0, by decide +kernel, ⟨by decide +kernel, by decide +kernel⟩, by decide +kernel, by decide +kernel⟩
set_option maxRecDepth 100000 in
theorem tk_X0_kind_0 : zTok zM (zM 1).1.cls (zM 1).1.name (zM 1).2.1 (zM 1).2.2.2.2.1 tb_X0_kind := zTok_of [] [] (by decide +kernel) (by decide +kernel) (by decide +kernel) (by decide +kernel) (by decide +kernel) (by decide +kernel)
theorem ok_X0_kind : zMok zM 1 := ⟨tk_X0_kind_0, by decide +kernel, ⟨by decide +kernel, by decide +kernel⟩, by decide +kernel, by decide +kernel⟩
set_option maxRecDepth 100000 in
theorem tk_X0_isAnswered_0 : zTok zM (zM 2).1.cls (zM 2).1.name (zM 2).2.1 (zM 2).2.2.2.2.1 tb_X0_isAnswered := zTok_of [333, 334, 333, 334, 402, 36, 403, 337, 338, 337, 338, 402, 36, 403] [401, 401] (by decide +kernel) (by decide +kernel) (by decide +kernel) (by decide +kernel) (by decide +kernel) (by decide +kernel)
theorem ok_X0_isAnswered : zMok zM 2 := ⟨tk_X0_isAnswered_0, by decide +kernel, ⟨by decide +kernel, by decide +kernel⟩, by decide +kernel, by decide +kernel⟩
set_option maxRecDepth 100000 in
theorem tk_X0_oddsUnanswered_0 : zTok zM (zM 3).1.cls (zM 3).1.name (zM 3).2.1 (zM 3).2.2.2.2.1 tb_X0_oddsUnanswered := zTok_of [333, 334, 333, 334, 337, 338, 337, 338, 536, 532, 366, 530, 46, 538] [] (by decide +kernel) (by decide +kernel) (by decide +kernel) (by decide +kernel) (by decide +kernel) (by decide +kernel)
theorem ok_X0_oddsUnanswered : zMok zM 3 := ⟨tk_X0_oddsUnanswered_0, by decide +kernel, ⟨by decide +kernel, by decide +kernel⟩, by decide +kernel, by decide +kernel⟩
set_option maxRecDepth 100000 in
theorem tk_X0_telling_0 : zTok zM (zM 4).1.cls (zM 4).1.name (zM 4).2.1 (zM 4).2.2.2.2.1 tb_X0_telling := zTok_of [612, 613, 614, 39, 615, 616, 608, 366, 606, 46, 629] [] (by decide +kernel) (by decide +kernel) (by decide +kernel) (by decide +kernel) (by decide +kernel) (by decide +kernel)
theorem ok_X0_telling : zMok zM 4 := ⟨tk_X0_telling_0, by decide +kernel, ⟨by decide +kernel, by decide +kernel⟩, by decide +kernel, by decide +kernel⟩
set_option maxRecDepth 100000 in
theorem tk_X1_init_0 : zTok zM (zM 5).1.cls (zM 5).1.name (zM 5).2.1 (zM 5).2.2.2.2.1 tb_X1_init := zTok_of [65, 58, 59, 68, 71, 66, 75] [67] (by decide +kernel) (by decide +kernel) (by decide +kernel) (by decide +kernel) (by decide +kernel) (by decide +kernel)
theorem ok_X1_init : zMok zM 5 := ⟨tk_X1_init_0, by decide +kernel, ⟨by decide +kernel, by decide +kernel⟩, by decide +kernel, by decide +kernel⟩
set_option maxRecDepth 100000 in
theorem tk_X1_taleAt_0 : zTok zM (zM 6).1.cls (zM 6).1.name (zM 6).2.1 (zM 6).2.2.2.2.1 tb_X1_taleAt := zTok_of [71, 75] [] (by decide +kernel) (by decide +kernel) (by decide +kernel) (by decide +kernel) (by decide +kernel) (by decide +kernel)
theorem ok_X1_taleAt : zMok zM 6 := ⟨tk_X1_taleAt_0, by decide +kernel, ⟨by decide +kernel, by decide +kernel⟩, by decide +kernel, by decide +kernel⟩
set_option maxRecDepth 100000 in
theorem tk_X1_firstFault_0 : zTok zM (zM 7).1.cls (zM 7).1.name (zM 7).2.1 (zM 7).2.2.2.2.1 tb_X1_firstFault := zTok_of [294, 295, 296, 44, 297, 302, 303, 37, 304] [] (by decide +kernel) (by decide +kernel) (by decide +kernel) (by decide +kernel) (by decide +kernel) (by decide +kernel)
theorem ok_X1_firstFault : zMok zM 7 := ⟨tk_X1_firstFault_0, by decide +kernel, ⟨by decide +kernel, by decide +kernel⟩, by decide +kernel, by decide +kernel⟩
set_option maxRecDepth 100000 in
theorem tk_X1_goesOn_0 : zTok zM (zM 8).1.cls (zM 8).1.name (zM 8).2.1 (zM 8).2.2.2.2.1 tb_X1_goesOn_0 := zTok_of [269, 36, 270] [305] (by decide +kernel) (by decide +kernel) (by decide +kernel) (by decide +kernel) (by decide +kernel) (by decide +kernel)
set_option maxRecDepth 100000 in
theorem tk_X1_goesOn_1 : zTok zM (zM 8).1.cls (zM 8).1.name (zM 8).2.1 (zM 8).2.2.2.2.1 tb_X1_goesOn_1 := zTok_of [269, 36, 270, 269, 36, 270] [305, 305] (by decide +kernel) (by decide +kernel) (by decide +kernel) (by decide +kernel) (by decide +kernel) (by decide +kernel)
theorem ok_X1_goesOn : zMok zM 8 := ⟨zTok_app (tk_X1_goesOn_0) tk_X1_goesOn_1, by decide +kernel, ⟨by decide +kernel, by decide +kernel⟩, by decide +kernel, by decide +kernel⟩
set_option maxRecDepth 100000 in
theorem tk_X1_grow_0 : zTok zM (zM 9).1.cls (zM 9).1.name (zM 9).2.1 (zM 9).2.2.2.2.1 tb_X1_grow_0 := zTok_of [294, 295, 296, 44, 297, 68, 310, 311, 42, 312, 71, 71, 75, 313, 314, 37, 315] [] (by decide +kernel) (by decide +kernel) (by decide +kernel) (by decide +kernel) (by decide +kernel) (by decide +kernel)
set_option maxRecDepth 100000 in
theorem tk_X1_grow_1 : zTok zM (zM 9).1.cls (zM 9).1.name (zM 9).2.1 (zM 9).2.2.2.2.1 tb_X1_grow_1 := zTok_of [] [] (by decide +kernel) (by decide +kernel) (by decide +kernel) (by decide +kernel) (by decide +kernel) (by decide +kernel)
theorem ok_X1_grow : zMok zM 9 := ⟨zTok_app (tk_X1_grow_0) tk_X1_grow_1, by decide +kernel, ⟨by decide +kernel, by decide +kernel⟩, by decide +kernel, by decide +kernel⟩
set_option maxRecDepth 100000 in
theorem tk_X1_newTale_0 : zTok zM (zM 10).1.cls (zM 10).1.name (zM 10).2.1 (zM 10).2.2.2.2.1 tb_X1_newTale_0 := zTok_of [294, 295, 296, 44, 297, 294, 295, 296, 44, 297, 294, 295, 296, 44, 297, 294, 295, 296, 44, 297, 294, 295, 296, 44, 297] [] (by decide +kernel) (by decide +kernel) (by decide +kernel) (by decide +kernel) (by decide +kernel) (by decide +kernel)
set_option maxRecDepth 100000 in
theorem tk_X1_newTale_1 : zTok zM (zM 10).1.cls (zM 10).1.name (zM 10).2.1 (zM 10).2.2.2.2.1 tb_X1_newTale_1 := zTok_of [316, 317, 48, 318, 319, 48, 320, 358, 359, 47, 360, 322, 47, 323, 66, 367, 46, 368, 325, 46, 326] [] (by decide +kernel) (by decide +kernel) (by decide +kernel) (by decide +kernel) (by decide +kernel) (by decide +kernel)
theorem ok_X1_newTale : zMok zM 10 := ⟨zTok_app (tk_X1_newTale_0) tk_X1_newTale_1, by decide +kernel, ⟨by decide +kernel, by decide +kernel⟩, by decide +kernel, by decide +kernel⟩
set_option maxRecDepth 100000 in
theorem tk_X2_init_0 : zTok zM (zM 11).1.cls (zM 11).1.name (zM 11).2.1 (zM 11).2.2.2.2.1 tb_X2_init := zTok_of [197, 58, 59, 168, 36, 169, 199, 200] [198] (by decide +kernel) (by decide +kernel) (by decide +kernel) (by decide +kernel) (by decide +kernel) (by decide +kernel)
theorem ok_X2_init : zMok zM 11 := ⟨tk_X2_init_0, by decide +kernel, ⟨by decide +kernel, by decide +kernel⟩, by decide +kernel, by decide +kernel⟩
set_option maxRecDepth 100000 in
theorem tk_X2_farByBestPlay_0 : zTok zM (zM 12).1.cls (zM 12).1.name (zM 12).2.1 (zM 12).2.2.2.2.1 tb_X2_farByBestPlay := zTok_of [509, 171, 42, 172, 510, 311, 42, 312, 72, 510, 311, 42, 312, 200, 199, 511, 474, 475, 40, 476, 512, 514, 7, 43, 515] [] (by decide +kernel) (by decide +kernel) (by decide +kernel) (by decide +kernel) (by decide +kernel) (by decide +kernel)
theorem ok_X2_farByBestPlay : zMok zM 12 := ⟨tk_X2_farByBestPlay_0, by decide +kernel, ⟨by decide +kernel, by decide +kernel⟩, by decide +kernel, by decide +kernel⟩
set_option maxRecDepth 100000 in
theorem tk_X2_leastFar_0 : zTok zM (zM 13).1.cls (zM 13).1.name (zM 13).2.1 (zM 13).2.2.2.2.1 tb_X2_leastFar_0 := zTok_of [200, 199, 200, 127, 69, 72, 402, 36, 403, 517, 519, 8, 43, 520, 510, 311, 42, 312] [516] (by decide +kernel) (by decide +kernel) (by decide +kernel) (by decide +kernel) (by decide +kernel) (by decide +kernel)
set_option maxRecDepth 100000 in
theorem tk_X2_leastFar_1 : zTok zM (zM 13).1.cls (zM 13).1.name (zM 13).2.1 (zM 13).2.2.2.2.1 tb_X2_leastFar_1 := zTok_of [] [] (by decide +kernel) (by decide +kernel) (by decide +kernel) (by decide +kernel) (by decide +kernel) (by decide +kernel)
theorem ok_X2_leastFar : zMok zM 13 := ⟨zTok_app (tk_X2_leastFar_0) tk_X2_leastFar_1, by decide +kernel, ⟨by decide +kernel, by decide +kernel⟩, by decide +kernel, by decide +kernel⟩
set_option maxRecDepth 100000 in
theorem tk_X2_mostFar_0 : zTok zM (zM 14).1.cls (zM 14).1.name (zM 14).2.1 (zM 14).2.2.2.2.1 tb_X2_mostFar_0 := zTok_of [521, 380, 381, 37, 382, 200, 199, 199, 511, 474, 475, 40, 476, 522, 445, 446, 40, 447, 139, 127] [] (by decide +kernel) (by decide +kernel) (by decide +kernel) (by decide +kernel) (by decide +kernel) (by decide +kernel)
set_option maxRecDepth 100000 in
theorem tk_X2_mostFar_1 : zTok zM (zM 14).1.cls (zM 14).1.name (zM 14).2.1 (zM 14).2.2.2.2.1 tb_X2_mostFar_1 := zTok_of [512, 514, 7, 43, 515, 135, 342, 342, 342, 402, 36, 403, 523, 456, 457, 40, 458, 512, 514, 7, 43, 515, 509, 171, 42, 172] [516] (by decide +kernel) (by decide +kernel) (by decide +kernel) (by decide +kernel) (by decide +kernel) (by decide +kernel)
theorem ok_X2_mostFar : zMok zM 14 := ⟨zTok_app (tk_X2_mostFar_0) tk_X2_mostFar_1, by decide +kernel, ⟨by decide +kernel, by decide +kernel⟩, by decide +kernel, by decide +kernel⟩
set_option maxRecDepth 100000 in
theorem tk_X3_init_0 : zTok zM (zM 15).1.cls (zM 15).1.name (zM 15).2.1 (zM 15).2.2.2.2.1 tb_X3_init := zTok_of [166, 58, 59, 174, 106, 176, 106, 178, 168, 36, 169, 179, 180] [167] (by decide +kernel) (by decide +kernel) (by decide +kernel) (by decide +kernel) (by decide +kernel) (by decide +kernel)
theorem ok_X3_init : zMok zM 15 := ⟨tk_X3_init_0, by decide +kernel, ⟨by decide +kernel, by decide +kernel⟩, by decide +kernel, by decide +kernel⟩
set_option maxRecDepth 100000 in
theorem tk_X3_seek_0 : zTok zM (zM 16).1.cls (zM 16).1.name (zM 16).2.1 (zM 16).2.2.2.2.1 tb_X3_seek := zTok_of [471, 171, 42, 172, 472, 311, 42, 312, 180, 174, 179, 473, 474, 475, 40, 476, 477, 479, 5, 41, 480] [] (by decide +kernel) (by decide +kernel) (by decide +kernel) (by decide +kernel) (by decide +kernel) (by decide +kernel)
theorem ok_X3_seek : zMok zM 16 := ⟨tk_X3_seek_0, by decide +kernel, ⟨by decide +kernel, by decide +kernel⟩, by decide +kernel, by decide +kernel⟩
set_option maxRecDepth 100000 in
theorem tk_X3_goOn_0 : zTok zM (zM 17).1.cls (zM 17).1.name (zM 17).2.1 (zM 17).2.2.2.2.1 tb_X3_goOn_0 := zTok_of [180, 179, 130, 180, 174, 180, 130, 174, 178, 176, 180, 481, 483, 482, 49] [] (by decide +kernel) (by decide +kernel) (by decide +kernel) (by decide +kernel) (by decide +kernel) (by decide +kernel)
set_option maxRecDepth 100000 in
theorem tk_X3_goOn_1 : zTok zM (zM 17).1.cls (zM 17).1.name (zM 17).2.1 (zM 17).2.2.2.2.1 tb_X3_goOn_1 := zTok_of [74, 402, 36, 403, 485, 487, 6, 41, 488] [484] (by decide +kernel) (by decide +kernel) (by decide +kernel) (by decide +kernel) (by decide +kernel) (by decide +kernel)
theorem ok_X3_goOn : zMok zM 17 := ⟨zTok_app (tk_X3_goOn_0) tk_X3_goOn_1, by decide +kernel, ⟨by decide +kernel, by decide +kernel⟩, by decide +kernel, by decide +kernel⟩
set_option maxRecDepth 100000 in
theorem tk_X3_tellNext_0 : zTok zM (zM 18).1.cls (zM 18).1.name (zM 18).2.1 (zM 18).2.2.2.2.1 tb_X3_tellNext_0 := zTok_of [180, 179, 179, 473, 474, 475, 40, 476, 489, 380, 381, 37, 382, 490, 445, 446, 40, 447, 138, 178] [] (by decide +kernel) (by decide +kernel) (by decide +kernel) (by decide +kernel) (by decide +kernel) (by decide +kernel)
set_option maxRecDepth 100000 in
theorem tk_X3_tellNext_1 : zTok zM (zM 18).1.cls (zM 18).1.name (zM 18).2.1 (zM 18).2.2.2.2.1 tb_X3_tellNext_1 := zTok_of [477, 479, 5, 41, 480] [] (by decide +kernel) (by decide +kernel) (by decide +kernel) (by decide +kernel) (by decide +kernel) (by decide +kernel)
theorem ok_X3_tellNext : zMok zM 18 := ⟨zTok_app (tk_X3_tellNext_0) tk_X3_tellNext_1, by decide +kernel, ⟨by decide +kernel, by decide +kernel⟩, by decide +kernel, by decide +kernel⟩
set_option maxRecDepth 100000 in
theorem tk_X4_init_0 : zTok zM (zM 19).1.cls (zM 19).1.name (zM 19).2.1 (zM 19).2.2.2.2.1 tb_X4_init := zTok_of [125, 58, 59, 126, 129, 132, 134, 137, 141, 142, 143] [] (by decide +kernel) (by decide +kernel) (by decide +kernel) (by decide +kernel) (by decide +kernel) (by decide +kernel)
theorem ok_X4_init : zMok zM 19 := ⟨tk_X4_init_0, by decide +kernel, ⟨by decide +kernel, by decide +kernel⟩, by decide +kernel, by decide +kernel⟩
set_option maxRecDepth 100000 in
theorem tk_X4_begin_0 : zTok zM (zM 20).1.cls (zM 20).1.name (zM 20).2.1 (zM 20).2.2.2.2.1 tb_X4_begin := zTok_of [141, 134, 142, 126, 129, 132, 143, 137] [] (by decide +kernel) (by decide +kernel) (by decide +kernel) (by decide +kernel) (by decide +kernel) (by decide +kernel)
theorem ok_X4_begin : zMok zM 20 := ⟨tk_X4_begin_0, by decide +kernel, ⟨by decide +kernel, by decide +kernel⟩, by decide +kernel, by decide +kernel⟩
set_option maxRecDepth 100000 in
theorem tk_X4_takeUp_0 : zTok zM (zM 21).1.cls (zM 21).1.name (zM 21).2.1 (zM 21).2.2.2.2.1 tb_X4_takeUp := zTok_of [141, 141, 134, 134, 142, 142, 126, 126, 129, 129, 132, 132, 143, 143, 137, 137] [] (by decide +kernel) (by decide +kernel) (by decide +kernel) (by decide +kernel) (by decide +kernel) (by decide +kernel)
theorem ok_X4_takeUp : zMok zM 21 := ⟨tk_X4_takeUp_0, by decide +kernel, ⟨by decide +kernel, by decide +kernel⟩, by decide +kernel, by decide +kernel⟩
set_option maxRecDepth 100000 in
theorem tk_X4_hear_0 : zTok zM (zM 22).1.cls (zM 22).1.name (zM 22).2.1 (zM 22).2.2.2.2.1 tb_X4_hear_0 := zTok_of [137, 346, 346, 346, 448, 450, 4, 40, 451, 137, 134, 143, 453, 397, 398, 399, 47, 400, 395, 409, 453, 397, 404, 405, 48, 406, 395, 409, 453, 395, 396, 46, 409, 129, 129, 126, 142, 454, 413, 414, 411, 46, 416, 454, 413, 415, 411, 46, 416, 454, 411, 412, 46, 416, 448, 450, 4, 40, 451] [] (by decide +kernel) (by decide +kernel) (by decide +kernel) (by decide +kernel) (by decide +kernel) (by decide +kernel)
set_option maxRecDepth 100000 in
theorem tk_X4_hear_1 : zTok zM (zM 22).1.cls (zM 22).1.name (zM 22).2.1 (zM 22).2.2.2.2.1 tb_X4_hear_1 := zTok_of [132, 132, 143, 331, 331, 331, 143, 455, 456, 457, 40, 458] [] (by decide +kernel) (by decide +kernel) (by decide +kernel) (by decide +kernel) (by decide +kernel) (by decide +kernel)
theorem ok_X4_hear : zMok zM 22 := ⟨zTok_app (tk_X4_hear_0) tk_X4_hear_1, by decide +kernel, ⟨by decide +kernel, by decide +kernel⟩, by decide +kernel, by decide +kernel⟩
set_option maxRecDepth 100000 in
theorem tk_X4_learn_0 : zTok zM (zM 23).1.cls (zM 23).1.name (zM 23).2.1 (zM 23).2.2.2.2.1 tb_X4_learn := zTok_of [134, 343, 343, 343, 134] [] (by decide +kernel) (by decide +kernel) (by decide +kernel) (by decide +kernel) (by decide +kernel) (by decide +kernel)
theorem ok_X4_learn : zMok zM 23 := ⟨tk_X4_learn_0, by decide +kernel, ⟨by decide +kernel, by decide +kernel⟩, by decide +kernel, by decide +kernel⟩
set_option maxRecDepth 100000 in
theorem tk_X4_walk_0 : zTok zM (zM 24).1.cls (zM 24).1.name (zM 24).2.1 (zM 24).2.2.2.2.1 tb_X4_walk := zTok_of [126, 141, 452, 311, 42, 312, 126, 126, 141, 137] [] (by decide +kernel) (by decide +kernel) (by decide +kernel) (by decide +kernel) (by decide +kernel) (by decide +kernel)
theorem ok_X4_walk : zMok zM 24 := ⟨tk_X4_walk_0, by decide +kernel, ⟨by decide +kernel, by decide +kernel⟩, by decide +kernel, by decide +kernel⟩
set_option maxRecDepth 100000 in
theorem tk_X5_init_0 : zTok zM (zM 25).1.cls (zM 25).1.name (zM 25).2.1 (zM 25).2.2.2.2.1 tb_X5_init := zTok_of [321, 322, 47, 323] [] (by decide +kernel) (by decide +kernel) (by decide +kernel) (by decide +kernel) (by decide +kernel) (by decide +kernel)
theorem ok_X5_init : zMok zM 25 := ⟨tk_X5_init_0, by decide +kernel, ⟨by decide +kernel, by decide +kernel⟩, by decide +kernel, by decide +kernel⟩
set_option maxRecDepth 100000 in
theorem tk_X5_kind_0 : zTok zM (zM 26).1.cls (zM 26).1.name (zM 26).2.1 (zM 26).2.2.2.2.1 tb_X5_kind := zTok_of [] [] (by decide +kernel) (by decide +kernel) (by decide +kernel) (by decide +kernel) (by decide +kernel) (by decide +kernel)
theorem ok_X5_kind : zMok zM 26 := ⟨tk_X5_kind_0, by decide +kernel, ⟨by decide +kernel, by decide +kernel⟩, by decide +kernel, by decide +kernel⟩
set_option maxRecDepth 100000 in
theorem tk_X5_isAnswered_0 : zTok zM (zM 27).1.cls (zM 27).1.name (zM 27).2.1 (zM 27).2.2.2.2.1 tb_X5_isAnswered := zTok_of [329, 330, 402, 36, 403, 408, 1028, 357, 399, 47, 400] [407] (by decide +kernel) (by decide +kernel) (by decide +kernel) (by decide +kernel) (by decide +kernel) (by decide +kernel)
theorem ok_X5_isAnswered : zMok zM 27 := ⟨tk_X5_isAnswered_0, by decide +kernel, ⟨by decide +kernel, by decide +kernel⟩, by decide +kernel, by decide +kernel⟩
set_option maxRecDepth 100000 in
theorem tk_X5_telling_0 : zTok zM (zM 28).1.cls (zM 28).1.name (zM 28).2.1 (zM 28).2.2.2.2.1 tb_X5_telling := zTok_of [620, 613, 614, 39, 615, 621, 1029, 357, 610, 47, 611, 622, 623, 625, 626, 46, 627] [] (by decide +kernel) (by decide +kernel) (by decide +kernel) (by decide +kernel) (by decide +kernel) (by decide +kernel)
theorem ok_X5_telling : zMok zM 28 := ⟨tk_X5_telling_0, by decide +kernel, ⟨by decide +kernel, by decide +kernel⟩, by decide +kernel, by decide +kernel⟩
set_option maxRecDepth 100000 in
theorem tk_X5_whispering_0 : zTok zM (zM 29).1.cls (zM 29).1.name (zM 29).2.1 (zM 29).2.2.2.2.1 tb_X5_whispering := zTok_of [620, 613, 614, 39, 615] [] (by decide +kernel) (by decide +kernel) (by decide +kernel) (by decide +kernel) (by decide +kernel) (by decide +kernel)
theorem ok_X5_whispering : zMok zM 29 := ⟨tk_X5_whispering_0, by decide +kernel, ⟨by decide +kernel, by decide +kernel⟩, by decide +kernel, by decide +kernel⟩
set_option maxRecDepth 100000 in
theorem tk_X6_init_0 : zTok zM (zM 30).1.cls (zM 30).1.name (zM 30).2.1 (zM 30).2.2.2.2.1 tb_X6_init := zTok_of [88, 58, 59, 89, 106, 91, 106, 93, 106, 95] [] (by decide +kernel) (by decide +kernel) (by decide +kernel) (by decide +kernel) (by decide +kernel) (by decide +kernel)
theorem ok_X6_init : zMok zM 30 := ⟨tk_X6_init_0, by decide +kernel, ⟨by decide +kernel, by decide +kernel⟩, by decide +kernel, by decide +kernel⟩
set_option maxRecDepth 100000 in
theorem tk_X6_add_0 : zTok zM (zM 31).1.cls (zM 31).1.name (zM 31).2.1 (zM 31).2.2.2.2.1 tb_X6_add := zTok_of [89, 89, 91, 89, 93, 89, 95, 89, 89, 89, 89] [] (by decide +kernel) (by decide +kernel) (by decide +kernel) (by decide +kernel) (by decide +kernel) (by decide +kernel)
theorem ok_X6_add : zMok zM 31 := ⟨tk_X6_add_0, by decide +kernel, ⟨by decide +kernel, by decide +kernel⟩, by decide +kernel, by decide +kernel⟩
set_option maxRecDepth 100000 in
theorem tk_X7_init_0 : zTok zM (zM 32).1.cls (zM 32).1.name (zM 32).2.1 (zM 32).2.2.2.2.1 tb_X7_init := zTok_of [210, 58, 59, 211, 213, 106, 214] [] (by decide +kernel) (by decide +kernel) (by decide +kernel) (by decide +kernel) (by decide +kernel) (by decide +kernel)
theorem ok_X7_init : zMok zM 32 := ⟨tk_X7_init_0, by decide +kernel, ⟨by decide +kernel, by decide +kernel⟩, by decide +kernel, by decide +kernel⟩
set_option maxRecDepth 100000 in
theorem tk_X7_isNothing_0 : zTok zM (zM 33).1.cls (zM 33).1.name (zM 33).2.1 (zM 33).2.2.2.2.1 tb_X7_isNothing := zTok_of [211] [] (by decide +kernel) (by decide +kernel) (by decide +kernel) (by decide +kernel) (by decide +kernel) (by decide +kernel)
theorem ok_X7_isNothing : zMok zM 33 := ⟨tk_X7_isNothing_0, by decide +kernel, ⟨by decide +kernel, by decide +kernel⟩, by decide +kernel, by decide +kernel⟩
set_option maxRecDepth 100000 in
theorem tk_X7_clear_0 : zTok zM (zM 34).1.cls (zM 34).1.name (zM 34).2.1 (zM 34).2.2.2.2.1 tb_X7_clear := zTok_of [211, 213] [] (by decide +kernel) (by decide +kernel) (by decide +kernel) (by decide +kernel) (by decide +kernel) (by decide +kernel)
theorem ok_X7_clear : zMok zM 34 := ⟨tk_X7_clear_0, by decide +kernel, ⟨by decide +kernel, by decide +kernel⟩, by decide +kernel, by decide +kernel⟩
set_option maxRecDepth 100000 in
theorem tk_X7_renew_0 : zTok zM (zM 35).1.cls (zM 35).1.name (zM 35).2.1 (zM 35).2.2.2.2.1 tb_X7_renew := zTok_of [214, 567, 568, 51, 569, 211, 570, 171, 42, 172, 571, 311, 42, 312, 213] [] (by decide +kernel) (by decide +kernel) (by decide +kernel) (by decide +kernel) (by decide +kernel) (by decide +kernel)
theorem ok_X7_renew : zMok zM 35 := ⟨tk_X7_renew_0, by decide +kernel, ⟨by decide +kernel, by decide +kernel⟩, by decide +kernel, by decide +kernel⟩
set_option maxRecDepth 100000 in
theorem tk_X7_hasCell_0 : zTok zM (zM 36).1.cls (zM 36).1.name (zM 36).2.1 (zM 36).2.2.2.2.1 tb_X7_hasCell := zTok_of [213] [] (by decide +kernel) (by decide +kernel) (by decide +kernel) (by decide +kernel) (by decide +kernel) (by decide +kernel)
theorem ok_X7_hasCell : zMok zM 36 := ⟨tk_X7_hasCell_0, by decide +kernel, ⟨by decide +kernel, by decide +kernel⟩, by decide +kernel, by decide +kernel⟩
