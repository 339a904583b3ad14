/-! the tables are the code, and all words that they need are there (written by wip/whole/gen/tables.py) -/
theorem zTok_of {M : Nat → zQ} {own nm : String} {cc : ByteArray} {ret : Option FieldType} {tab : List (Nat × zO)} (is js : List Nat) (h1 : tab.all (fun q => decide (decode cc q.1 = .ok (q.2.1, zlen q.2))) = true)
    (h2 : is.map (fun i => lw_tbl[i]?) = (tab.flatMap fun q => zneed M own q.2).map some) (h3 : (tab.flatMap fun q => zneed M own q.2).all goodWord = true) (h4 : js.map (fun i => lw_tbl[i]?) = (tab.flatMap fun q => zneedN M own q.2).map some)
    (h5 : (tab.flatMap fun q => zeqs M own q.2).all (fun z => decide (z.1 = z.2)) = true) (h6 : tab.all (fun q => zoks M nm ret q.1 q.2) = true) : zTok M own nm cc ret tab := by
  have key : ∀ (is : List Nat) (ws : List Cond), is.map (fun i => lw_tbl[i]?) = ws.map some → ∀ w ∈ ws, w ∈ lw_tbl := by
    intro is ws h w hw
    have h7 : some w ∈ is.map (fun i => lw_tbl[i]?) := by rw [h]; exact List.mem_map.mpr ⟨w, hw, rfl⟩
    obtain ⟨i, -, hi⟩ := List.mem_map.mp h7
    exact List.mem_of_getElem? hi
  intro q hq
  refine ⟨of_decide_eq_true (List.all_eq_true.mp h1 q hq), fun w hw => ?_, fun w hw => key js _ h4 w (List.mem_flatMap.mpr ⟨q, hq, hw⟩), fun z hz => of_decide_eq_true (List.all_eq_true.mp h5 z (List.mem_flatMap.mpr ⟨q, hq, hz⟩)), List.all_eq_true.mp h6 q hq⟩
  have hm : w ∈ tab.flatMap fun q => zneed M own q.2 := List.mem_flatMap.mpr ⟨q, hq, hw⟩
  exact List.mem_filter.mpr ⟨key is _ h2 w hm, List.all_eq_true.mp h3 w hm⟩
theorem zTok_app {M : Nat → zQ} {own nm : String} {cc : ByteArray} {ret : Option FieldType} {a b : List (Nat × zO)} (h1 : zTok M own nm cc ret a) (h2 : zTok M own nm cc ret b) : zTok M own nm cc ret (a ++ b) := fun q hq => (List.mem_append.mp hq).elim (h1 q) (h2 q)
set_option maxRecDepth 100000 in
theorem tk_X0_init_0 : zTok zM (zM 0).1.cls (zM 0).1.name (zM 0).2.1 (zM 0).2.2.2.2.1 tb_X0_init := zTok_of [323, 324, 45, 325] [] (by decide +kernel) (by decide +kernel) (by decide +kernel) (by decide +kernel) (by decide +kernel) (by decide +kernel)
theorem ok_X0_init : zMok zM 0 := ⟨tk_X0_init_0, by decide +kernel, ⟨by decide +kernel, by decide +kernel⟩, by decide +kernel, by decide +kernel⟩
set_option maxRecDepth 100000 in
theorem tk_X0_kind_0 : zTok zM (zM 1).1.cls (zM 1).1.name (zM 1).2.1 (zM 1).2.2.2.2.1 tb_X0_kind := zTok_of [] [] (by decide +kernel) (by decide +kernel) (by decide +kernel) (by decide +kernel) (by decide +kernel) (by decide +kernel)
theorem ok_X0_kind : zMok zM 1 := ⟨tk_X0_kind_0, by decide +kernel, ⟨by decide +kernel, by decide +kernel⟩, by decide +kernel, by decide +kernel⟩
set_option maxRecDepth 100000 in
theorem tk_X0_isAnswered_0 : zTok zM (zM 2).1.cls (zM 2).1.name (zM 2).2.1 (zM 2).2.2.2.2.1 tb_X0_isAnswered := zTok_of [332, 333, 332, 333, 401, 35, 402, 336, 337, 336, 337, 401, 35, 402] [400, 400] (by decide +kernel) (by decide +kernel) (by decide +kernel) (by decide +kernel) (by decide +kernel) (by decide +kernel)
theorem ok_X0_isAnswered : zMok zM 2 := ⟨tk_X0_isAnswered_0, by decide +kernel, ⟨by decide +kernel, by decide +kernel⟩, by decide +kernel, by decide +kernel⟩
set_option maxRecDepth 100000 in
theorem tk_X0_oddsUnanswered_0 : zTok zM (zM 3).1.cls (zM 3).1.name (zM 3).2.1 (zM 3).2.2.2.2.1 tb_X0_oddsUnanswered := zTok_of [332, 333, 332, 333, 336, 337, 336, 337, 531, 527, 365, 525, 45, 533] [] (by decide +kernel) (by decide +kernel) (by decide +kernel) (by decide +kernel) (by decide +kernel) (by decide +kernel)
theorem ok_X0_oddsUnanswered : zMok zM 3 := ⟨tk_X0_oddsUnanswered_0, by decide +kernel, ⟨by decide +kernel, by decide +kernel⟩, by decide +kernel, by decide +kernel⟩
set_option maxRecDepth 100000 in
theorem tk_X0_telling_0 : zTok zM (zM 4).1.cls (zM 4).1.name (zM 4).2.1 (zM 4).2.2.2.2.1 tb_X0_telling := zTok_of [607, 608, 609, 38, 610, 611, 603, 365, 601, 45, 624] [] (by decide +kernel) (by decide +kernel) (by decide +kernel) (by decide +kernel) (by decide +kernel) (by decide +kernel)
theorem ok_X0_telling : zMok zM 4 := ⟨tk_X0_telling_0, by decide +kernel, ⟨by decide +kernel, by decide +kernel⟩, by decide +kernel, by decide +kernel⟩
set_option maxRecDepth 100000 in
theorem tk_X1_init_0 : zTok zM (zM 5).1.cls (zM 5).1.name (zM 5).2.1 (zM 5).2.2.2.2.1 tb_X1_init := zTok_of [64, 57, 58, 67, 70, 65, 74] [66] (by decide +kernel) (by decide +kernel) (by decide +kernel) (by decide +kernel) (by decide +kernel) (by decide +kernel)
theorem ok_X1_init : zMok zM 5 := ⟨tk_X1_init_0, by decide +kernel, ⟨by decide +kernel, by decide +kernel⟩, by decide +kernel, by decide +kernel⟩
set_option maxRecDepth 100000 in
theorem tk_X1_taleAt_0 : zTok zM (zM 6).1.cls (zM 6).1.name (zM 6).2.1 (zM 6).2.2.2.2.1 tb_X1_taleAt := zTok_of [70, 74] [] (by decide +kernel) (by decide +kernel) (by decide +kernel) (by decide +kernel) (by decide +kernel) (by decide +kernel)
theorem ok_X1_taleAt : zMok zM 6 := ⟨tk_X1_taleAt_0, by decide +kernel, ⟨by decide +kernel, by decide +kernel⟩, by decide +kernel, by decide +kernel⟩
set_option maxRecDepth 100000 in
theorem tk_X1_firstFault_0 : zTok zM (zM 7).1.cls (zM 7).1.name (zM 7).2.1 (zM 7).2.2.2.2.1 tb_X1_firstFault := zTok_of [293, 294, 295, 43, 296, 301, 302, 36, 303] [] (by decide +kernel) (by decide +kernel) (by decide +kernel) (by decide +kernel) (by decide +kernel) (by decide +kernel)
theorem ok_X1_firstFault : zMok zM 7 := ⟨tk_X1_firstFault_0, by decide +kernel, ⟨by decide +kernel, by decide +kernel⟩, by decide +kernel, by decide +kernel⟩
set_option maxRecDepth 100000 in
theorem tk_X1_goesOn_0 : zTok zM (zM 8).1.cls (zM 8).1.name (zM 8).2.1 (zM 8).2.2.2.2.1 tb_X1_goesOn_0 := zTok_of [268, 35, 269] [304] (by decide +kernel) (by decide +kernel) (by decide +kernel) (by decide +kernel) (by decide +kernel) (by decide +kernel)
set_option maxRecDepth 100000 in
theorem tk_X1_goesOn_1 : zTok zM (zM 8).1.cls (zM 8).1.name (zM 8).2.1 (zM 8).2.2.2.2.1 tb_X1_goesOn_1 := zTok_of [268, 35, 269, 268, 35, 269] [304, 304] (by decide +kernel) (by decide +kernel) (by decide +kernel) (by decide +kernel) (by decide +kernel) (by decide +kernel)
theorem ok_X1_goesOn : zMok zM 8 := ⟨zTok_app (tk_X1_goesOn_0) tk_X1_goesOn_1, by decide +kernel, ⟨by decide +kernel, by decide +kernel⟩, by decide +kernel, by decide +kernel⟩
set_option maxRecDepth 100000 in
theorem tk_X1_grow_0 : zTok zM (zM 9).1.cls (zM 9).1.name (zM 9).2.1 (zM 9).2.2.2.2.1 tb_X1_grow_0 := zTok_of [293, 294, 295, 43, 296, 67, 309, 310, 41, 311, 70, 70, 74, 312, 313, 36, 314] [] (by decide +kernel) (by decide +kernel) (by decide +kernel) (by decide +kernel) (by decide +kernel) (by decide +kernel)
set_option maxRecDepth 100000 in
theorem tk_X1_grow_1 : zTok zM (zM 9).1.cls (zM 9).1.name (zM 9).2.1 (zM 9).2.2.2.2.1 tb_X1_grow_1 := zTok_of [] [] (by decide +kernel) (by decide +kernel) (by decide +kernel) (by decide +kernel) (by decide +kernel) (by decide +kernel)
theorem ok_X1_grow : zMok zM 9 := ⟨zTok_app (tk_X1_grow_0) tk_X1_grow_1, by decide +kernel, ⟨by decide +kernel, by decide +kernel⟩, by decide +kernel, by decide +kernel⟩
set_option maxRecDepth 100000 in
theorem tk_X1_newTale_0 : zTok zM (zM 10).1.cls (zM 10).1.name (zM 10).2.1 (zM 10).2.2.2.2.1 tb_X1_newTale_0 := zTok_of [293, 294, 295, 43, 296, 293, 294, 295, 43, 296, 293, 294, 295, 43, 296, 293, 294, 295, 43, 296, 293, 294, 295, 43, 296] [] (by decide +kernel) (by decide +kernel) (by decide +kernel) (by decide +kernel) (by decide +kernel) (by decide +kernel)
set_option maxRecDepth 100000 in
theorem tk_X1_newTale_1 : zTok zM (zM 10).1.cls (zM 10).1.name (zM 10).2.1 (zM 10).2.2.2.2.1 tb_X1_newTale_1 := zTok_of [315, 316, 47, 317, 318, 47, 319, 357, 358, 46, 359, 321, 46, 322, 65, 366, 45, 367, 324, 45, 325] [] (by decide +kernel) (by decide +kernel) (by decide +kernel) (by decide +kernel) (by decide +kernel) (by decide +kernel)
theorem ok_X1_newTale : zMok zM 10 := ⟨zTok_app (tk_X1_newTale_0) tk_X1_newTale_1, by decide +kernel, ⟨by decide +kernel, by decide +kernel⟩, by decide +kernel, by decide +kernel⟩
set_option maxRecDepth 100000 in
theorem tk_X2_init_0 : zTok zM (zM 11).1.cls (zM 11).1.name (zM 11).2.1 (zM 11).2.2.2.2.1 tb_X2_init := zTok_of [196, 57, 58, 167, 35, 168, 198, 199] [197] (by decide +kernel) (by decide +kernel) (by decide +kernel) (by decide +kernel) (by decide +kernel) (by decide +kernel)
theorem ok_X2_init : zMok zM 11 := ⟨tk_X2_init_0, by decide +kernel, ⟨by decide +kernel, by decide +kernel⟩, by decide +kernel, by decide +kernel⟩
set_option maxRecDepth 100000 in
theorem tk_X2_farByBestPlay_0 : zTok zM (zM 12).1.cls (zM 12).1.name (zM 12).2.1 (zM 12).2.2.2.2.1 tb_X2_farByBestPlay := zTok_of [504, 170, 41, 171, 505, 310, 41, 311, 71, 505, 310, 41, 311, 199, 198, 506, 473, 474, 39, 475, 507, 509, 6, 42, 510] [] (by decide +kernel) (by decide +kernel) (by decide +kernel) (by decide +kernel) (by decide +kernel) (by decide +kernel)
theorem ok_X2_farByBestPlay : zMok zM 12 := ⟨tk_X2_farByBestPlay_0, by decide +kernel, ⟨by decide +kernel, by decide +kernel⟩, by decide +kernel, by decide +kernel⟩
set_option maxRecDepth 100000 in
theorem tk_X2_leastFar_0 : zTok zM (zM 13).1.cls (zM 13).1.name (zM 13).2.1 (zM 13).2.2.2.2.1 tb_X2_leastFar_0 := zTok_of [199, 198, 199, 126, 68, 71, 401, 35, 402, 512, 514, 7, 42, 515, 505, 310, 41, 311] [511] (by decide +kernel) (by decide +kernel) (by decide +kernel) (by decide +kernel) (by decide +kernel) (by decide +kernel)
set_option maxRecDepth 100000 in
theorem tk_X2_leastFar_1 : zTok zM (zM 13).1.cls (zM 13).1.name (zM 13).2.1 (zM 13).2.2.2.2.1 tb_X2_leastFar_1 := zTok_of [] [] (by decide +kernel) (by decide +kernel) (by decide +kernel) (by decide +kernel) (by decide +kernel) (by decide +kernel)
theorem ok_X2_leastFar : zMok zM 13 := ⟨zTok_app (tk_X2_leastFar_0) tk_X2_leastFar_1, by decide +kernel, ⟨by decide +kernel, by decide +kernel⟩, by decide +kernel, by decide +kernel⟩
set_option maxRecDepth 100000 in
theorem tk_X2_mostFar_0 : zTok zM (zM 14).1.cls (zM 14).1.name (zM 14).2.1 (zM 14).2.2.2.2.1 tb_X2_mostFar_0 := zTok_of [516, 379, 380, 36, 381, 199, 198, 198, 506, 473, 474, 39, 475, 517, 444, 445, 39, 446, 138, 126] [] (by decide +kernel) (by decide +kernel) (by decide +kernel) (by decide +kernel) (by decide +kernel) (by decide +kernel)
set_option maxRecDepth 100000 in
theorem tk_X2_mostFar_1 : zTok zM (zM 14).1.cls (zM 14).1.name (zM 14).2.1 (zM 14).2.2.2.2.1 tb_X2_mostFar_1 := zTok_of [507, 509, 6, 42, 510, 134, 341, 341, 341, 401, 35, 402, 518, 455, 456, 39, 457, 507, 509, 6, 42, 510, 504, 170, 41, 171] [511] (by decide +kernel) (by decide +kernel) (by decide +kernel) (by decide +kernel) (by decide +kernel) (by decide +kernel)
theorem ok_X2_mostFar : zMok zM 14 := ⟨zTok_app (tk_X2_mostFar_0) tk_X2_mostFar_1, by decide +kernel, ⟨by decide +kernel, by decide +kernel⟩, by decide +kernel, by decide +kernel⟩
set_option maxRecDepth 100000 in
theorem tk_X3_init_0 : zTok zM (zM 15).1.cls (zM 15).1.name (zM 15).2.1 (zM 15).2.2.2.2.1 tb_X3_init := zTok_of [165, 57, 58, 173, 105, 175, 105, 177, 167, 35, 168, 178, 179] [166] (by decide +kernel) (by decide +kernel) (by decide +kernel) (by decide +kernel) (by decide +kernel) (by decide +kernel)
theorem ok_X3_init : zMok zM 15 := ⟨tk_X3_init_0, by decide +kernel, ⟨by decide +kernel, by decide +kernel⟩, by decide +kernel, by decide +kernel⟩
set_option maxRecDepth 100000 in
theorem tk_X3_seek_0 : zTok zM (zM 16).1.cls (zM 16).1.name (zM 16).2.1 (zM 16).2.2.2.2.1 tb_X3_seek := zTok_of [470, 170, 41, 171, 471, 310, 41, 311, 179, 173, 178, 472, 473, 474, 39, 475, 476, 478, 5, 40, 479] [] (by decide +kernel) (by decide +kernel) (by decide +kernel) (by decide +kernel) (by decide +kernel) (by decide +kernel)
theorem ok_X3_seek : zMok zM 16 := ⟨tk_X3_seek_0, by decide +kernel, ⟨by decide +kernel, by decide +kernel⟩, by decide +kernel, by decide +kernel⟩
set_option maxRecDepth 100000 in
theorem tk_X3_goOn_0 : zTok zM (zM 17).1.cls (zM 17).1.name (zM 17).2.1 (zM 17).2.2.2.2.1 tb_X3_goOn_0 := zTok_of [179, 178, 129, 179, 173, 179, 129, 173, 177, 175, 179, 480, 482, 481, 48] [] (by decide +kernel) (by decide +kernel) (by decide +kernel) (by decide +kernel) (by decide +kernel) (by decide +kernel)
set_option maxRecDepth 100000 in
theorem tk_X3_goOn_1 : zTok zM (zM 17).1.cls (zM 17).1.name (zM 17).2.1 (zM 17).2.2.2.2.1 tb_X3_goOn_1 := zTok_of [73, 401, 35, 402, 178, 472, 473, 474, 39, 475, 484, 379, 380, 36, 381, 485, 444, 445, 39, 446, 137, 177] [483] (by decide +kernel) (by decide +kernel) (by decide +kernel) (by decide +kernel) (by decide +kernel) (by decide +kernel)
set_option maxRecDepth 100000 in
theorem tk_X3_goOn_2 : zTok zM (zM 17).1.cls (zM 17).1.name (zM 17).2.1 (zM 17).2.2.2.2.1 tb_X3_goOn_2 := zTok_of [476, 478, 5, 40, 479] [] (by decide +kernel) (by decide +kernel) (by decide +kernel) (by decide +kernel) (by decide +kernel) (by decide +kernel)
theorem ok_X3_goOn : zMok zM 17 := ⟨zTok_app (zTok_app (tk_X3_goOn_0) tk_X3_goOn_1) tk_X3_goOn_2, by decide +kernel, ⟨by decide +kernel, by decide +kernel⟩, by decide +kernel, by decide +kernel⟩
set_option maxRecDepth 100000 in
theorem tk_X4_init_0 : zTok zM (zM 18).1.cls (zM 18).1.name (zM 18).2.1 (zM 18).2.2.2.2.1 tb_X4_init := zTok_of [124, 57, 58, 125, 128, 131, 133, 136, 140, 141, 142] [] (by decide +kernel) (by decide +kernel) (by decide +kernel) (by decide +kernel) (by decide +kernel) (by decide +kernel)
theorem ok_X4_init : zMok zM 18 := ⟨tk_X4_init_0, by decide +kernel, ⟨by decide +kernel, by decide +kernel⟩, by decide +kernel, by decide +kernel⟩
set_option maxRecDepth 100000 in
theorem tk_X4_begin_0 : zTok zM (zM 19).1.cls (zM 19).1.name (zM 19).2.1 (zM 19).2.2.2.2.1 tb_X4_begin := zTok_of [140, 133, 141, 125, 128, 131, 142, 136] [] (by decide +kernel) (by decide +kernel) (by decide +kernel) (by decide +kernel) (by decide +kernel) (by decide +kernel)
theorem ok_X4_begin : zMok zM 19 := ⟨tk_X4_begin_0, by decide +kernel, ⟨by decide +kernel, by decide +kernel⟩, by decide +kernel, by decide +kernel⟩
set_option maxRecDepth 100000 in
theorem tk_X4_takeUp_0 : zTok zM (zM 20).1.cls (zM 20).1.name (zM 20).2.1 (zM 20).2.2.2.2.1 tb_X4_takeUp := zTok_of [140, 140, 133, 133, 141, 141, 125, 125, 128, 128, 131, 131, 142, 142, 136, 136] [] (by decide +kernel) (by decide +kernel) (by decide +kernel) (by decide +kernel) (by decide +kernel) (by decide +kernel)
theorem ok_X4_takeUp : zMok zM 20 := ⟨tk_X4_takeUp_0, by decide +kernel, ⟨by decide +kernel, by decide +kernel⟩, by decide +kernel, by decide +kernel⟩
set_option maxRecDepth 100000 in
theorem tk_X4_hear_0 : zTok zM (zM 21).1.cls (zM 21).1.name (zM 21).2.1 (zM 21).2.2.2.2.1 tb_X4_hear_0 := zTok_of [136, 345, 345, 345, 447, 449, 4, 39, 450, 136, 133, 142, 452, 396, 397, 398, 46, 399, 394, 408, 452, 396, 403, 404, 47, 405, 394, 408, 452, 394, 395, 45, 408, 128, 128, 125, 141, 453, 412, 413, 410, 45, 415, 453, 412, 414, 410, 45, 415, 453, 410, 411, 45, 415, 447, 449, 4, 39, 450] [] (by decide +kernel) (by decide +kernel) (by decide +kernel) (by decide +kernel) (by decide +kernel) (by decide +kernel)
set_option maxRecDepth 100000 in
theorem tk_X4_hear_1 : zTok zM (zM 21).1.cls (zM 21).1.name (zM 21).2.1 (zM 21).2.2.2.2.1 tb_X4_hear_1 := zTok_of [131, 131, 142, 330, 330, 330, 142, 454, 455, 456, 39, 457] [] (by decide +kernel) (by decide +kernel) (by decide +kernel) (by decide +kernel) (by decide +kernel) (by decide +kernel)
theorem ok_X4_hear : zMok zM 21 := ⟨zTok_app (tk_X4_hear_0) tk_X4_hear_1, by decide +kernel, ⟨by decide +kernel, by decide +kernel⟩, by decide +kernel, by decide +kernel⟩
set_option maxRecDepth 100000 in
theorem tk_X4_learn_0 : zTok zM (zM 22).1.cls (zM 22).1.name (zM 22).2.1 (zM 22).2.2.2.2.1 tb_X4_learn := zTok_of [133, 342, 342, 342, 133] [] (by decide +kernel) (by decide +kernel) (by decide +kernel) (by decide +kernel) (by decide +kernel) (by decide +kernel)
theorem ok_X4_learn : zMok zM 22 := ⟨tk_X4_learn_0, by decide +kernel, ⟨by decide +kernel, by decide +kernel⟩, by decide +kernel, by decide +kernel⟩
set_option maxRecDepth 100000 in
theorem tk_X4_walk_0 : zTok zM (zM 23).1.cls (zM 23).1.name (zM 23).2.1 (zM 23).2.2.2.2.1 tb_X4_walk := zTok_of [125, 140, 451, 310, 41, 311, 125, 125, 140, 136] [] (by decide +kernel) (by decide +kernel) (by decide +kernel) (by decide +kernel) (by decide +kernel) (by decide +kernel)
theorem ok_X4_walk : zMok zM 23 := ⟨tk_X4_walk_0, by decide +kernel, ⟨by decide +kernel, by decide +kernel⟩, by decide +kernel, by decide +kernel⟩
set_option maxRecDepth 100000 in
theorem tk_X5_init_0 : zTok zM (zM 24).1.cls (zM 24).1.name (zM 24).2.1 (zM 24).2.2.2.2.1 tb_X5_init := zTok_of [320, 321, 46, 322] [] (by decide +kernel) (by decide +kernel) (by decide +kernel) (by decide +kernel) (by decide +kernel) (by decide +kernel)
theorem ok_X5_init : zMok zM 24 := ⟨tk_X5_init_0, by decide +kernel, ⟨by decide +kernel, by decide +kernel⟩, by decide +kernel, by decide +kernel⟩
set_option maxRecDepth 100000 in
theorem tk_X5_kind_0 : zTok zM (zM 25).1.cls (zM 25).1.name (zM 25).2.1 (zM 25).2.2.2.2.1 tb_X5_kind := zTok_of [] [] (by decide +kernel) (by decide +kernel) (by decide +kernel) (by decide +kernel) (by decide +kernel) (by decide +kernel)
theorem ok_X5_kind : zMok zM 25 := ⟨tk_X5_kind_0, by decide +kernel, ⟨by decide +kernel, by decide +kernel⟩, by decide +kernel, by decide +kernel⟩
set_option maxRecDepth 100000 in
theorem tk_X5_isAnswered_0 : zTok zM (zM 26).1.cls (zM 26).1.name (zM 26).2.1 (zM 26).2.2.2.2.1 tb_X5_isAnswered := zTok_of [328, 329, 401, 35, 402, 407, 1023, 356, 398, 46, 399] [406] (by decide +kernel) (by decide +kernel) (by decide +kernel) (by decide +kernel) (by decide +kernel) (by decide +kernel)
theorem ok_X5_isAnswered : zMok zM 26 := ⟨tk_X5_isAnswered_0, by decide +kernel, ⟨by decide +kernel, by decide +kernel⟩, by decide +kernel, by decide +kernel⟩
set_option maxRecDepth 100000 in
theorem tk_X5_telling_0 : zTok zM (zM 27).1.cls (zM 27).1.name (zM 27).2.1 (zM 27).2.2.2.2.1 tb_X5_telling := zTok_of [615, 608, 609, 38, 610, 616, 1024, 356, 605, 46, 606, 617, 618, 620, 621, 45, 622] [] (by decide +kernel) (by decide +kernel) (by decide +kernel) (by decide +kernel) (by decide +kernel) (by decide +kernel)
theorem ok_X5_telling : zMok zM 27 := ⟨tk_X5_telling_0, by decide +kernel, ⟨by decide +kernel, by decide +kernel⟩, by decide +kernel, by decide +kernel⟩
set_option maxRecDepth 100000 in
theorem tk_X5_whispering_0 : zTok zM (zM 28).1.cls (zM 28).1.name (zM 28).2.1 (zM 28).2.2.2.2.1 tb_X5_whispering := zTok_of [615, 608, 609, 38, 610] [] (by decide +kernel) (by decide +kernel) (by decide +kernel) (by decide +kernel) (by decide +kernel) (by decide +kernel)
theorem ok_X5_whispering : zMok zM 28 := ⟨tk_X5_whispering_0, by decide +kernel, ⟨by decide +kernel, by decide +kernel⟩, by decide +kernel, by decide +kernel⟩
set_option maxRecDepth 100000 in
theorem tk_X6_init_0 : zTok zM (zM 29).1.cls (zM 29).1.name (zM 29).2.1 (zM 29).2.2.2.2.1 tb_X6_init := zTok_of [87, 57, 58, 88, 105, 90, 105, 92, 105, 94] [] (by decide +kernel) (by decide +kernel) (by decide +kernel) (by decide +kernel) (by decide +kernel) (by decide +kernel)
theorem ok_X6_init : zMok zM 29 := ⟨tk_X6_init_0, by decide +kernel, ⟨by decide +kernel, by decide +kernel⟩, by decide +kernel, by decide +kernel⟩
set_option maxRecDepth 100000 in
theorem tk_X6_add_0 : zTok zM (zM 30).1.cls (zM 30).1.name (zM 30).2.1 (zM 30).2.2.2.2.1 tb_X6_add := zTok_of [88, 88, 90, 88, 92, 88, 94, 88, 88, 88, 88] [] (by decide +kernel) (by decide +kernel) (by decide +kernel) (by decide +kernel) (by decide +kernel) (by decide +kernel)
theorem ok_X6_add : zMok zM 30 := ⟨tk_X6_add_0, by decide +kernel, ⟨by decide +kernel, by decide +kernel⟩, by decide +kernel, by decide +kernel⟩
set_option maxRecDepth 100000 in
theorem tk_X7_init_0 : zTok zM (zM 31).1.cls (zM 31).1.name (zM 31).2.1 (zM 31).2.2.2.2.1 tb_X7_init := zTok_of [209, 57, 58, 210, 212, 105, 213] [] (by decide +kernel) (by decide +kernel) (by decide +kernel) (by decide +kernel) (by decide +kernel) (by decide +kernel)
theorem ok_X7_init : zMok zM 31 := ⟨tk_X7_init_0, by decide +kernel, ⟨by decide +kernel, by decide +kernel⟩, by decide +kernel, by decide +kernel⟩
set_option maxRecDepth 100000 in
theorem tk_X7_isNothing_0 : zTok zM (zM 32).1.cls (zM 32).1.name (zM 32).2.1 (zM 32).2.2.2.2.1 tb_X7_isNothing := zTok_of [210] [] (by decide +kernel) (by decide +kernel) (by decide +kernel) (by decide +kernel) (by decide +kernel) (by decide +kernel)
theorem ok_X7_isNothing : zMok zM 32 := ⟨tk_X7_isNothing_0, by decide +kernel, ⟨by decide +kernel, by decide +kernel⟩, by decide +kernel, by decide +kernel⟩
set_option maxRecDepth 100000 in
theorem tk_X7_clear_0 : zTok zM (zM 33).1.cls (zM 33).1.name (zM 33).2.1 (zM 33).2.2.2.2.1 tb_X7_clear := zTok_of [210, 212] [] (by decide +kernel) (by decide +kernel) (by decide +kernel) (by decide +kernel) (by decide +kernel) (by decide +kernel)
theorem ok_X7_clear : zMok zM 33 := ⟨tk_X7_clear_0, by decide +kernel, ⟨by decide +kernel, by decide +kernel⟩, by decide +kernel, by decide +kernel⟩
set_option maxRecDepth 100000 in
theorem tk_X7_renew_0 : zTok zM (zM 34).1.cls (zM 34).1.name (zM 34).2.1 (zM 34).2.2.2.2.1 tb_X7_renew := zTok_of [213, 562, 563, 50, 564, 210, 565, 170, 41, 171, 566, 310, 41, 311, 212] [] (by decide +kernel) (by decide +kernel) (by decide +kernel) (by decide +kernel) (by decide +kernel) (by decide +kernel)
theorem ok_X7_renew : zMok zM 34 := ⟨tk_X7_renew_0, by decide +kernel, ⟨by decide +kernel, by decide +kernel⟩, by decide +kernel, by decide +kernel⟩
set_option maxRecDepth 100000 in
theorem tk_X7_hasCell_0 : zTok zM (zM 35).1.cls (zM 35).1.name (zM 35).2.1 (zM 35).2.2.2.2.1 tb_X7_hasCell := zTok_of [212] [] (by decide +kernel) (by decide +kernel) (by decide +kernel) (by decide +kernel) (by decide +kernel) (by decide +kernel)
theorem ok_X7_hasCell : zMok zM 35 := ⟨tk_X7_hasCell_0, by decide +kernel, ⟨by decide +kernel, by decide +kernel⟩, by decide +kernel, by decide +kernel⟩
set_option maxRecDepth 100000 in
theorem tk_X7_hasCells_0 : zTok zM (zM 36).1.cls (zM 36).1.name (zM 36).2.1 (zM 36).2.2.2.2.1 tb_X7_hasCells := zTok_of [212, 212] [] (by decide +kernel) (by decide +kernel) (by decide +kernel) (by decide +kernel) (by decide +kernel) (by decide +kernel)
theorem ok_X7_hasCells : zMok zM 36 := ⟨tk_X7_hasCells_0, by decide +kernel, ⟨by decide +kernel, by decide +kernel⟩, by decide +kernel, by decide +kernel⟩
