/-! game -/
theorem c_play {d : Nat} {h : zH} (S : St h) {N sp n kn : Nat} (T : IvT h N) (s1 : zi h 37 1 = nI sp) (hs : sp ≤ 9) (hs1 : 1 ≤ sp) (hn : n ≤ 4) (hn1 : 1 ≤ n) (hN : 1 ≤ N) (hkn : kn < 256) (k8 : zi h 37 8 = nI kn) {G : zH} (P : Pres h G) : ∃ G', zcall (zP zM) (d + 6) 121 [.inr (.inr (some 37)), .inl (nI n)] G = some (some (.inl (nI (gV (hmv h sp) (hte h) sp N (min n N) 0 (nI kn) 0))), G') ∧ Pres h G' := by
  have SG := P.St S
  have z0 : zix 0 6 = some 0 := by decide
  have k8' : zi (zwI G 50 0 0) 37 8 = nI kn := by rw [zi_wI, if_neg (by omega), P.2.2.2.2 37 8 (zscr_no (by omega))]; exact k8
  have P1 : Pres h (zwI (zwI (zwI (zwI (zwI G 50 0 0) 51 0 (nI kn)) 52 0 0) 53 0 (-1)) 56 0 99) := ((((P.w (by decide)).w (by decide)).w (by decide)).w (by decide)).w (by decide)
  obtain ⟨G', o, l4', c1, P', -, c4⟩ := c_EN (d := d) S T s1 hs hs1 hn (min n N) 0 (by omega) (zwI (zwI (zwI (zwI (zwI G 50 0 0) 51 0 (nI kn)) 52 0 0) 53 0 (-1)) 56 0 99) 0 0 kn none none P1 (by simp [zi_wI]; rfl) (by simp [zi_wI]) (by simp [zi_wI]; rfl) (by simp [zi_wI]) (by simp [zi_wI]; rfl) (by omega) (Nat.two_pow_pos N) rfl hkn
  have S' := P'.St S
  refine ⟨G', ?_, P'⟩
  have run : zcall (zP zM) (d + 6) 121 [.inr (.inr (some 37)), .inl (nI n)] G = zX (d + 5) tb_X11_play 41 [some (.inr (.inr (some 37))), some (.inl (nI n)), some (.inl (nI 0)), none, none] [] (zwI (zwI (zwI (zwI (zwI G 50 0 0) 51 0 (nI kn)) 52 0 0) 53 0 (-1)) 56 0 99) := by
    rw [e_X11_play]
    simp +decide only [u_X11_play_0, u_X11_play_1, u_X11_play_2, u_X11_play_3, u_X11_play_6, u_X11_play_7, u_X11_play_8, u_X11_play_9, u_X11_play_10, u_X11_play_13, u_X11_play_14, u_X11_play_15, u_X11_play_18, u_X11_play_19, u_X11_play_20, u_X11_play_23, u_X11_play_24, u_X11_play_25, u_X11_play_26, u_X11_play_27, u_X11_play_30, u_X11_play_31, u_X11_play_32, u_X11_play_33, u_X11_play_34, u_X11_play_37, u_X11_play_38, u_X11_play_40, u_X11_play_42, u_X11_play_45, u_X11_play_46, u_X11_play_47, u_X11_play_50, u_X11_play_51, u_X11_play_54, u_X11_play_55, u_X11_play_56, u_X11_play_57, u_X11_play_60, u_X11_play_63, u_X11_play_64, u_X11_play_67, u_X11_play_68, u_X11_play_69, u_X11_play_70, u_X11_play_71, u_X11_play_74, u_X11_play_75, u_X11_play_76, u_X11_play_77, u_X11_play_80, u_X11_play_81, u_X11_play_84, u_X11_play_85, u_X11_play_86, u_X11_play_87, u_X11_play_90, u_X11_play_91, u_X11_play_92, u_X11_play_95, u_X11_play_96, u_X11_play_99, u_X11_play_100, u_X11_play_101, u_X11_play_104, u_X11_play_107, u_X11_play_110, u_X11_play_111, u_X11_play_114, u_X11_play_115, u_X11_play_118, u_X11_play_119, u_X11_play_120, u_X11_play_123, u_X11_play_124, u_X11_play_127, u_X11_play_128, u_X11_play_129, u_X11_play_131, u_X11_play_134, u_X11_play_135, u_X11_play_138, u_X11_play_139, u_X11_play_142, u_X11_play_143, u_X11_play_145, u_X11_play_146, u_X11_play_149, u_X11_play_150, u_X11_play_151, u_X11_play_154, u_X11_play_156, u_X11_play_159, u_X11_play_160, u_X11_play_163, u_X11_play_164, u_X11_play_165, u_X11_play_166, u_X11_play_169, u_X11_play_170, u_X11_play_173, u_X11_play_174, u_X11_play_175, zcl_i, zcl_r, zcl_l, zcl_0, Option.bind_some, Option.bind_none, Option.toList_some, Option.toList_none, List.cons_append, List.nil_append, zk_wI, zk_wR, zk_wC, zr_wI, zr_wC, zi_wR, zn_wI, zn_wR, zn_wC, if_true, if_false, true_or, or_true, or_false, false_or, true_and, and_true, ↓reduceIte, reduceCtorEq, Nat.reduceEqDiff, Nat.reduceLT, Nat.reduceLeDiff, Nat.reduceAdd, Nat.reduceSub, Nat.reduceMul, Int32.reduceLT, Int32.reduceLE, Int32.reduceAdd, Int32.reduceMul, Int32.reduceSub, Int32.reduceToNatClampNeg, and_self, or_self, and_false, false_and, not_true_eq_false, not_false_eq_true, K37 SG, R37_27 SG, R37_28 SG, R37_29 SG, R37_30 SG, R37_33 SG, K50 SG, K51 SG, K52 SG, K53 SG, K56 SG, z0, k8']
    rfl
  rw [run, c1]
  have m1 : nI 0 + (-1) = -1 := by decide
  have z56 := c4 (by omega) (by omega)
  simp +decide only [u_X11_play_0, u_X11_play_1, u_X11_play_2, u_X11_play_3, u_X11_play_6, u_X11_play_7, u_X11_play_8, u_X11_play_9, u_X11_play_10, u_X11_play_13, u_X11_play_14, u_X11_play_15, u_X11_play_18, u_X11_play_19, u_X11_play_20, u_X11_play_23, u_X11_play_24, u_X11_play_25, u_X11_play_26, u_X11_play_27, u_X11_play_30, u_X11_play_31, u_X11_play_32, u_X11_play_33, u_X11_play_34, u_X11_play_37, u_X11_play_38, u_X11_play_40, u_X11_play_41, u_X11_play_42, u_X11_play_45, u_X11_play_46, u_X11_play_47, u_X11_play_50, u_X11_play_51, u_X11_play_54, u_X11_play_55, u_X11_play_56, u_X11_play_57, u_X11_play_60, u_X11_play_63, u_X11_play_64, u_X11_play_67, u_X11_play_68, u_X11_play_69, u_X11_play_70, u_X11_play_71, u_X11_play_74, u_X11_play_75, u_X11_play_76, u_X11_play_77, u_X11_play_80, u_X11_play_81, u_X11_play_84, u_X11_play_85, u_X11_play_86, u_X11_play_87, u_X11_play_90, u_X11_play_91, u_X11_play_92, u_X11_play_95, u_X11_play_96, u_X11_play_99, u_X11_play_100, u_X11_play_101, u_X11_play_104, u_X11_play_107, u_X11_play_110, u_X11_play_111, u_X11_play_114, u_X11_play_115, u_X11_play_118, u_X11_play_119, u_X11_play_120, u_X11_play_123, u_X11_play_124, u_X11_play_127, u_X11_play_128, u_X11_play_129, u_X11_play_131, u_X11_play_134, u_X11_play_135, u_X11_play_138, u_X11_play_139, u_X11_play_142, u_X11_play_143, u_X11_play_145, u_X11_play_146, u_X11_play_149, u_X11_play_150, u_X11_play_151, u_X11_play_154, u_X11_play_156, u_X11_play_159, u_X11_play_160, u_X11_play_163, u_X11_play_164, u_X11_play_165, u_X11_play_166, u_X11_play_169, u_X11_play_170, u_X11_play_173, u_X11_play_174, u_X11_play_175, zcl_i, zcl_r, zcl_l, zcl_0, Option.bind_some, Option.bind_none, Option.toList_some, Option.toList_none, List.cons_append, List.nil_append, zk_wI, zk_wR, zk_wC, zr_wI, zr_wC, zi_wR, zn_wI, zn_wR, zn_wC, if_true, if_false, true_or, or_true, or_false, false_or, true_and, and_true, ↓reduceIte, reduceCtorEq, Nat.reduceEqDiff, Nat.reduceLT, Nat.reduceLeDiff, Nat.reduceAdd, Nat.reduceSub, Nat.reduceMul, Int32.reduceLT, Int32.reduceLE, Int32.reduceAdd, Int32.reduceMul, Int32.reduceSub, Int32.reduceToNatClampNeg, and_self, or_self, and_false, false_and, not_true_eq_false, not_false_eq_true, m1, K37 S', R37_33 S', K56 S', z0, z56]
theorem c_far {d : Nat} {h : zH} (S : St h) {N sp n kn : Nat} (T : IvT h N) (s1 : zi h 37 1 = nI sp) (hs : sp ≤ 9) (hs1 : 1 ≤ sp) (hn : n ≤ 4) (hkn : kn < 256) {H : zH} (P : Pres h H) (I : isN H 11 (0, nI kn, 0, 0, 0, 0) (zi h 37 1) (zi h 37 9)) (hd : 14 ≤ d) : ∃ H', zcall (zP zM) (d + 1) 12 [.inr (.inr (some 22)), .inr (.inr (some 2)), .inr (.inr (some 11)), .inl (nI n)] H = some (some (.inl (nI (gV (hmv h sp) (hte h) sp N (min n N) 0 (nI kn) 0))), H') ∧ Pres h H' := by
  have SH := P.St S
  have TH := P.IvT T
  have hN8 := T.1
  obtain ⟨e, rfl⟩ : ∃ e, d = e + 1 := ⟨d - 1, by omega⟩
  have n0 : ¬ nI n < 0 := nI_pos (by omega)
  have n4 : ¬ (4 : Int32) < nI n := by
    rw [show (4 : Int32) = nI 4 from rfl, nI_ltI' (by decide) (by omega)]
    omega
  have el : (if nI N < nI n then nI N else nI n) = nI (min n N) := by
    by_cases z : N < n
    · rw [if_pos (nI_lt z (by omega)), show min n N = N by omega]
    · rw [if_neg (nI_nlt (by omega) (by omega)), show min n N = n by omega]
  have z0 : zix 0 5 = some 0 := by decide
  have S2 : St (zwI H 22 1 (nI (min n N))) := SH
  have I2 : isN (zwI H 22 1 (nI (min n N))) 11 (0, nI kn, 0, 0, 0, 0) (zi h 37 1) (zi h 37 9) := isN_of I (fun y => by rw [zi_wI, if_neg (by omega)])
  have tk := c_takeUp (d := e) (K24 S2) (K11 S2) (by decide) I2 (Or.inl rfl)
  have J : GI h (cN (zwI H 22 1 (nI (min n N))) 24 (0, nI kn, 0, 0, 0, 0) (zi h 37 1) (zi h 37 9)) (min n N) := ⟨(P.w (by decide)).cN (by omega), by rw [zi_cN (by omega), zi_wI, if_pos ⟨rfl, rfl⟩]⟩
  obtain ⟨H', v, c1, c2, c3, c4, c5, -⟩ := c_leastFar S T s1 hs hs1 (show min n N ≤ 4 by omega) (min n N) 0 (by omega) (e + 1) _ 0 0 0 kn 0 0 (by omega) J isN_cN (by omega) (by omega) hkn (by omega)
  have ev : v = gV (hmv h sp) (hte h) sp N (min n N) 0 (nI kn) 0 := by
    by_cases z : 0 < gV (hmv h sp) (hte h) sp N (min n N) 0 (nI kn) 0
    · exact c4 z
    · have := c5 (by omega)
      omega
  rw [ev] at c1
  have c1' : zcall (zP zM) (e + 1) 13 [.inr (.inr (some 22)), .inr (.inr (some 2)), .inl 0, .inl 0, .inl 0] (cN (zwI H 22 1 (nI (min n N))) 24 (0, nI kn, 0, 0, 0, 0) (zi h 37 1) (zi h 37 9)) = some (some (.inl (nI (gV (hmv h sp) (hte h) sp N (min n N) 0 (nI kn) 0))), H') := c1
  refine ⟨H', ?_, c2.1⟩
  rw [e_X2_farByBestPlay]
  simp +decide only [u_X2_farByBestPlay_0, u_X2_farByBestPlay_1, u_X2_farByBestPlay_2, u_X2_farByBestPlay_3, u_X2_farByBestPlay_6, u_X2_farByBestPlay_7, u_X2_farByBestPlay_10, u_X2_farByBestPlay_11, u_X2_farByBestPlay_14, u_X2_farByBestPlay_17, u_X2_farByBestPlay_20, u_X2_farByBestPlay_21, u_X2_farByBestPlay_24, u_X2_farByBestPlay_25, u_X2_farByBestPlay_26, u_X2_farByBestPlay_27, u_X2_farByBestPlay_30, u_X2_farByBestPlay_31, u_X2_farByBestPlay_32, u_X2_farByBestPlay_33, u_X2_farByBestPlay_34, u_X2_farByBestPlay_35, u_X2_farByBestPlay_38, zcl_i, zcl_r, zcl_l, zcl_0, Option.bind_some, Option.bind_none, Option.toList_some, Option.toList_none, List.cons_append, List.nil_append, zk_wI, zk_wR, zk_wC, zr_wI, zr_wC, zi_wR, zn_wI, zn_wR, zn_wC, if_true, if_false, true_or, or_true, or_false, false_or, true_and, and_true, ↓reduceIte, reduceCtorEq, Nat.reduceEqDiff, Nat.reduceLT, Nat.reduceLeDiff, Nat.reduceAdd, Nat.reduceSub, Nat.reduceMul, Int32.reduceLT, Int32.reduceLE, Int32.reduceAdd, Int32.reduceMul, Int32.reduceSub, Int32.reduceToNatClampNeg, and_self, or_self, and_false, false_and, not_true_eq_false, not_false_eq_true, n0, n4, K2 SH, TH.2.1, el, K22 SH, R22_0 SH, K23 SH, z0, R23_0 SH, K24 SH, tk, zk_cN, c1']
theorem st_game {h : zH} (I : Inv h) {n : Int32} : Stq 63 122 [.inl n] h := by
  have I0 := I
  obtain ⟨S, h1, N, T, K, h4, h5, h6⟩ := I
  obtain ⟨t1, t2, t3, t4, t5, t6⟩ := id T
  by_cases hn : 1 ≤ n ∧ n ≤ 4
  · by_cases hN : N = 0
    · subst hN
      refine ⟨.inl (-3), h, h, ?_, ?_, I0, by omega, by omega⟩
      · rw [e_X10_game]
        simp +decide only [u_X10_game_0, u_X10_game_1, u_X10_game_2, u_X10_game_3, u_X10_game_6, u_X10_game_9, u_X10_game_11, u_X10_game_12, u_X10_game_13, u_X10_game_16, u_X10_game_19, u_X10_game_22, u_X10_game_24, u_X10_game_25, u_X10_game_26, u_X10_game_29, u_X10_game_30, u_X10_game_33, u_X10_game_36, u_X10_game_37, u_X10_game_40, u_X10_game_41, u_X10_game_44, u_X10_game_47, u_X10_game_48, u_X10_game_51, u_X10_game_52, u_X10_game_55, u_X10_game_56, u_X10_game_59, u_X10_game_60, u_X10_game_63, zcl_i, zcl_r, zcl_l, zcl_0, Option.bind_some, Option.bind_none, Option.toList_some, Option.toList_none, List.cons_append, List.nil_append, zk_wI, zk_wR, zk_wC, zr_wI, zr_wC, zi_wR, zn_wI, zn_wR, zn_wC, if_true, if_false, true_or, or_true, or_false, false_or, true_and, and_true, ↓reduceIte, reduceCtorEq, Nat.reduceEqDiff, Nat.reduceLT, Nat.reduceLeDiff, Nat.reduceAdd, Nat.reduceSub, Nat.reduceMul, Int32.reduceLT, Int32.reduceLE, Int32.reduceAdd, Int32.reduceMul, Int32.reduceSub, Int32.reduceToNatClampNeg, and_self, or_self, and_false, false_and, not_true_eq_false, not_false_eq_true, c_isWithin, hn, K1 S, R1_0 S, K2 S, t2]
      · rw [e_X11_game]
        simp +decide only [u_X11_game_0, u_X11_game_1, u_X11_game_2, u_X11_game_3, u_X11_game_6, u_X11_game_9, u_X11_game_12, u_X11_game_14, u_X11_game_15, u_X11_game_16, u_X11_game_19, u_X11_game_22, u_X11_game_24, u_X11_game_27, u_X11_game_28, u_X11_game_29, u_X11_game_32, zcl_i, zcl_r, zcl_l, zcl_0, Option.bind_some, Option.bind_none, Option.toList_some, Option.toList_none, List.cons_append, List.nil_append, zk_wI, zk_wR, zk_wC, zr_wI, zr_wC, zi_wR, zn_wI, zn_wR, zn_wC, if_true, if_false, true_or, or_true, or_false, false_or, true_and, and_true, ↓reduceIte, reduceCtorEq, Nat.reduceEqDiff, Nat.reduceLT, Nat.reduceLeDiff, Nat.reduceAdd, Nat.reduceSub, Nat.reduceMul, Int32.reduceLT, Int32.reduceLE, Int32.reduceAdd, Int32.reduceMul, Int32.reduceSub, Int32.reduceToNatClampNeg, and_self, or_self, and_false, false_and, not_true_eq_false, not_false_eq_true, c_in, l64l_1, l64r_4, hn, K37 S, t3]
    · have zN : (nI N = 0) = (N = 0) := nI_eqz (by omega)
      obtain ⟨kn, bn, k1, k2, k3, k4, k5, k6⟩ := K
      obtain ⟨sp, p1, p2, p3⟩ := t5
      obtain ⟨j, hj1, hj4, rfl⟩ : ∃ j, 1 ≤ j ∧ j ≤ 4 ∧ n = nI j := by
        have a1 := Int32.le_iff_toInt_le.mp hn.1
        have a2 := Int32.le_iff_toInt_le.mp hn.2
        have b1 : (1 : Int32).toInt = 1 := by decide
        have b2 : (4 : Int32).toInt = 4 := by decide
        rw [b1] at a1
        rw [b2] at a2
        rcases zrng n (N := 5) (by decide) with z | ⟨j, z1, z2⟩
        · exact absurd ⟨by omega, by omega⟩ z
        · rw [z2, nI_toInt (by omega)] at a1 a2
          exact ⟨j, by omega, by omega, z2⟩
      have P1 : Pres h (cN h 11 (0, nI kn, 0, 0, 0, 0) (zi h 37 1) (zi h 37 9)) := Pres.rfl.cN (by omega)
      have S1 := P1.St S
      obtain ⟨H, c1, PH⟩ := c_far (d := 38) S T p3 p1 (p2 (by omega)) hj4 k1 P1 isN_cN (by omega)
      have SH := PH.St S
      obtain ⟨G, c2, PG⟩ := c_play (d := 33) S T p3 p1 (p2 (by omega)) hj4 hj1 (by omega) k1 k4 PH
      have c1' : zcall (zP zM) 39 12 [.inr (.inr (some 22)), .inr (.inr (some 2)), .inr (.inr (some 11)), .inl (nI j)] (cN h 11 (0, nI kn, 0, 0, 0, 0) (zi h 37 1) (zi h 37 9)) = some (some (.inl (nI (gV (hmv h sp) (hte h) sp N (min j N) 0 (nI kn) 0))), H) := c1
      have c2' : zcall (zP zM) 39 121 [.inr (.inr (some 37)), .inl (nI j)] H = some (some (.inl (nI (gV (hmv h sp) (hte h) sp N (min j N) 0 (nI kn) 0))), G) := c2
      have hb : zi h 1 2 = zi h 37 9 := k5.trans k6.symm
      have z2H : zi H 37 2 = nI N := (PH.2.2.2.2 37 2 (zscr_no (by omega))).trans t3
      refine ⟨.inl (nI (gV (hmv h sp) (hte h) sp N (min j N) 0 (nI kn) 0)), H, G, ?_, ?_, PG.Inv I0, by have := PG.1; omega, by have := PG.2.1; omega⟩
      · rw [e_X10_game]
        simp +decide only [u_X10_game_0, u_X10_game_1, u_X10_game_2, u_X10_game_3, u_X10_game_6, u_X10_game_9, u_X10_game_11, u_X10_game_12, u_X10_game_13, u_X10_game_16, u_X10_game_19, u_X10_game_22, u_X10_game_24, u_X10_game_25, u_X10_game_26, u_X10_game_29, u_X10_game_30, u_X10_game_33, u_X10_game_36, u_X10_game_37, u_X10_game_40, u_X10_game_41, u_X10_game_44, u_X10_game_47, u_X10_game_48, u_X10_game_51, u_X10_game_52, u_X10_game_55, u_X10_game_56, u_X10_game_59, u_X10_game_60, u_X10_game_63, zcl_i, zcl_r, zcl_l, zcl_0, Option.bind_some, Option.bind_none, Option.toList_some, Option.toList_none, List.cons_append, List.nil_append, zk_wI, zk_wR, zk_wC, zr_wI, zr_wC, zi_wR, zn_wI, zn_wR, zn_wC, if_true, if_false, true_or, or_true, or_false, false_or, true_and, and_true, ↓reduceIte, reduceCtorEq, Nat.reduceEqDiff, Nat.reduceLT, Nat.reduceLeDiff, Nat.reduceAdd, Nat.reduceSub, Nat.reduceMul, Int32.reduceLT, Int32.reduceLE, Int32.reduceAdd, Int32.reduceMul, Int32.reduceSub, Int32.reduceToNatClampNeg, and_self, or_self, and_false, false_and, not_true_eq_false, not_false_eq_true, c_isWithin, hn, K1 S, R1_0 S, K2 S, t2, zN, hN, R1_9 S, K11 S, t4, k3, hb, c_begin (K11 S), zk_cN, zr_cN, R1_11 S, K22 S, c1']
      · rw [e_X11_game]
        simp +decide only [u_X11_game_0, u_X11_game_1, u_X11_game_2, u_X11_game_3, u_X11_game_6, u_X11_game_9, u_X11_game_12, u_X11_game_14, u_X11_game_15, u_X11_game_16, u_X11_game_19, u_X11_game_22, u_X11_game_24, u_X11_game_27, u_X11_game_28, u_X11_game_29, u_X11_game_32, zcl_i, zcl_r, zcl_l, zcl_0, Option.bind_some, Option.bind_none, Option.toList_some, Option.toList_none, List.cons_append, List.nil_append, zk_wI, zk_wR, zk_wC, zr_wI, zr_wC, zi_wR, zn_wI, zn_wR, zn_wC, if_true, if_false, true_or, or_true, or_false, false_or, true_and, and_true, ↓reduceIte, reduceCtorEq, Nat.reduceEqDiff, Nat.reduceLT, Nat.reduceLeDiff, Nat.reduceAdd, Nat.reduceSub, Nat.reduceMul, Int32.reduceLT, Int32.reduceLE, Int32.reduceAdd, Int32.reduceMul, Int32.reduceSub, Int32.reduceToNatClampNeg, and_self, or_self, and_false, false_and, not_true_eq_false, not_false_eq_true, c_in, l64l_1, l64r_4, hn, K37 SH, z2H, zN, hN, c2']
  · refine ⟨.inl (-2), h, h, ?_, ?_, I0, by omega, by omega⟩
    · rw [e_X10_game]
      simp +decide only [u_X10_game_0, u_X10_game_1, u_X10_game_2, u_X10_game_3, u_X10_game_6, u_X10_game_9, u_X10_game_11, u_X10_game_12, u_X10_game_13, u_X10_game_16, u_X10_game_19, u_X10_game_22, u_X10_game_24, u_X10_game_25, u_X10_game_26, u_X10_game_29, u_X10_game_30, u_X10_game_33, u_X10_game_36, u_X10_game_37, u_X10_game_40, u_X10_game_41, u_X10_game_44, u_X10_game_47, u_X10_game_48, u_X10_game_51, u_X10_game_52, u_X10_game_55, u_X10_game_56, u_X10_game_59, u_X10_game_60, u_X10_game_63, zcl_i, zcl_r, zcl_l, zcl_0, Option.bind_some, Option.bind_none, Option.toList_some, Option.toList_none, List.cons_append, List.nil_append, zk_wI, zk_wR, zk_wC, zr_wI, zr_wC, zi_wR, zn_wI, zn_wR, zn_wC, if_true, if_false, true_or, or_true, or_false, false_or, true_and, and_true, ↓reduceIte, reduceCtorEq, Nat.reduceEqDiff, Nat.reduceLT, Nat.reduceLeDiff, Nat.reduceAdd, Nat.reduceSub, Nat.reduceMul, Int32.reduceLT, Int32.reduceLE, Int32.reduceAdd, Int32.reduceMul, Int32.reduceSub, Int32.reduceToNatClampNeg, and_self, or_self, and_false, false_and, not_true_eq_false, not_false_eq_true, c_isWithin, hn]
    · rw [e_X11_game]
      simp +decide only [u_X11_game_0, u_X11_game_1, u_X11_game_2, u_X11_game_3, u_X11_game_6, u_X11_game_9, u_X11_game_12, u_X11_game_14, u_X11_game_15, u_X11_game_16, u_X11_game_19, u_X11_game_22, u_X11_game_24, u_X11_game_27, u_X11_game_28, u_X11_game_29, u_X11_game_32, zcl_i, zcl_r, zcl_l, zcl_0, Option.bind_some, Option.bind_none, Option.toList_some, Option.toList_none, List.cons_append, List.nil_append, zk_wI, zk_wR, zk_wC, zr_wI, zr_wC, zi_wR, zn_wI, zn_wR, zn_wC, if_true, if_false, true_or, or_true, or_false, false_or, true_and, and_true, ↓reduceIte, reduceCtorEq, Nat.reduceEqDiff, Nat.reduceLT, Nat.reduceLeDiff, Nat.reduceAdd, Nat.reduceSub, Nat.reduceMul, Int32.reduceLT, Int32.reduceLE, Int32.reduceAdd, Int32.reduceMul, Int32.reduceSub, Int32.reduceToNatClampNeg, and_self, or_self, and_false, false_and, not_true_eq_false, not_false_eq_true, c_in, l64l_1, l64r_4, hn]
