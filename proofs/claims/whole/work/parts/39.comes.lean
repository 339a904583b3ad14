/-! comes; how many facts -/
theorem mT_P {h h' : zH} (p : Pres h h') : mT h' = mT h := by
  have q := p.2.2.2.2
  funext t s
  unfold mT
  rw [q 37 1 (zscr_no (by omega)), q 37 9 (zscr_no (by omega)), q 38 t (zscr_no (by omega)), q 39 t (zscr_no (by omega)), q 40 t (zscr_no (by omega)), q 41 t (zscr_no (by omega)), q 42 t (zscr_no (by omega))]
theorem mT_37 {h : zH} {v : Int32} : mT (zwI h 37 0 v) = mT h := by
  have q : ∀ x y, ¬ (x = 37 ∧ y = 0) → zi (zwI h 37 0 v) x y = zi h x y := fun x y z => by rw [zi_wI, if_neg z]
  funext t s
  unfold mT
  rw [q 37 1 (by omega), q 37 9 (by omega), q 38 t (by omega), q 39 t (by omega), q 40 t (by omega), q 41 t (by omega), q 42 t (by omega)]
/-- what both sides do by an order that was taken -/
theorem nightly {h h9 : zH} (I : Inv h) (P : Pres (zwI h 1 6 0) h9) {N j a m : Nat} {q : Nat → Nat} (T : IvT h N) (hj : j < 4) (hm : m ≤ 20) (ham : a + m ≤ 60) (hq : ∀ x, x < m → q x < N ∧ zi h9 10 x = nI (q x) ∧ zi h9 62 (60 * j + a + x) = nI (q x)) (h8 : zi h9 1 8 = nI m) : ∃ kn, kn < 256 ∧ zi h9 1 1 = nI kn ∧ zi h9 37 8 = nI kn ∧
    (∀ d H kk, Pres h9 H → (∀ x y, ¬ x = 11 → zi H x y = zi h9 x y) → zcall (zP zM) (d + 5) 60 [.inr (.inr (some 1)), .inl kk] H = some (none, cN H 11 (oP (mT h9) q m (0, kk, 0, 0, 0, 0)) (zi h9 37 1) (zi h9 37 9))) ∧
    (∀ d G kk, Pres (zwI h9 37 0 0) G → zcall (zP zM) (d + 5) 110 [.inr (.inr (some 37)), .inl (nI (60 * j + a)), .inl (nI m), .inl kk] G = some (none, mN G (oP (mT h9) q m (0, kk, 0, 0, 0, 0)))) := by
  obtain ⟨S, h1, N0, T0, K, h4, h5, h6⟩ := I
  have S1 : ∀ v, St (zwI h 1 6 v) := fun _ => S
  have SH : St h9 := P.St (S1 0)
  have q9 : ∀ x y, ¬ (x = 1 ∧ y = 6) → zscr x y = false → zi h9 x y = zi h x y := fun x y z1 z2 => by rw [P.2.2.2.2 x y z2, zi_wI, if_neg z1]
  have T9 : IvT h9 N := P.IvT (IvT_w T (by omega) (by omega))
  obtain ⟨kn, bn, k1, k2, k3, k4, k5, k6⟩ := K
  have hb : zi h9 1 2 = zi h9 37 9 := by rw [q9 1 2 (by omega) (zscr_no (by omega)), q9 37 9 (by omega) (zscr_no (by omega)), k5, k6]
  refine ⟨kn, k1, (q9 1 1 (by omega) (zscr_no (by omega))).trans k3, (q9 37 8 (by omega) (zscr_no (by omega))).trans k4, fun d H kk PH qH => ?_, fun d G kk PG => ?_⟩
  · have := c_passNight (d := d) (PH.St SH) (PH.IvT T9) (by rw [qH 1 2 (by omega), qH 37 9 (by omega)]; exact hb) hm (fun x hx => ⟨(hq x hx).1, by rw [qH 10 x (by omega)]; exact (hq x hx).2.1⟩) (by rw [qH 1 8 (by omega)]; exact h8) (kn := kk) (q := q)
    rw [mT_P PH, qH 37 1 (by omega), qH 37 9 (by omega)] at this
    exact this
  · have S3 : St (zwI h9 37 0 0) := SH
    have := c_goOrder (d := d) (PG.St S3) (from0 := 60 * j + a) (n := m) (q := q) (by omega) (fun x hx => ⟨by have := (hq x hx).1; have := T.1; omega, by rw [PG.2.2.2.2 62 _ (zscr_no (by omega)), zi_wI, if_neg (by omega)]; exact (hq x hx).2.2⟩) (k := kk)
    rw [mT_P PG, mT_37] at this
    exact this
theorem hw0 : 0 ≤ (0 : Int32).toInt ∧ (0 : Int32).toInt < (4 : Nat) := by decide
theorem st_comes {h : zH} (I : Inv h) {k la i n : Int32} : Stq 58 113 [.inl k, .inl la, .inl i, .inl n] h := by
  have I0 := I
  obtain ⟨S, h1, N0, T0, K, h4, h5, h6⟩ := I
  have S1 : ∀ v, St (zwI h 1 6 v) := fun _ => S
  have fin : ∀ v, Inv (zwI (zwI h 1 6 v) 37 0 v) := fun v => Inv_fault I0
  rcases zrng k (N := 4) (by decide) with hf | ⟨j, hj, rfl⟩
  · refine ⟨.inl (-1), zwI h 1 6 0, zwI (zwI h 1 6 0) 37 0 0, ?_, ?_, fin 0, Nat.le_add_right _ _, Nat.le_add_right _ _⟩
    · rw [e_X10_comes]
      simp +decide only [u_X10_comes_0, u_X10_comes_1, u_X10_comes_2, u_X10_comes_3, u_X10_comes_4, u_X10_comes_6, u_X10_comes_7, u_X10_comes_10, u_X10_comes_12, u_X10_comes_14, u_X10_comes_17, u_X10_comes_19, u_X10_comes_20, u_X10_comes_21, u_X10_comes_22, u_X10_comes_25, u_X10_comes_28, u_X10_comes_29, u_X10_comes_32, u_X10_comes_35, u_X10_comes_38, u_X10_comes_39, u_X10_comes_42, u_X10_comes_43, zcl_i, zcl_r, zcl_l, zcl_0, Option.bind_some, Option.bind_none, Option.toList_some, Option.toList_none, List.cons_append, List.nil_append, zk_wI, zk_wR, zk_wC, zr_wI, zr_wC, zi_wR, zn_wI, zn_wR, zn_wC, if_true, if_false, true_or, or_true, or_false, false_or, true_and, and_true, ↓reduceIte, reduceCtorEq, Nat.reduceEqDiff, Nat.reduceLT, Nat.reduceLeDiff, Nat.reduceAdd, Nat.reduceSub, Nat.reduceMul, Int32.reduceLT, Int32.reduceLE, Int32.reduceAdd, Int32.reduceMul, Int32.reduceSub, Int32.reduceToNatClampNeg, and_self, or_self, and_false, false_and, not_true_eq_false, not_false_eq_true, K1 S, ordK S hf]
    · rw [e_X11_comes]
      simp +decide only [u_X11_comes_0, u_X11_comes_1, u_X11_comes_4, u_X11_comes_7, u_X11_comes_8, u_X11_comes_9, u_X11_comes_12, u_X11_comes_13, u_X11_comes_14, u_X11_comes_15, u_X11_comes_16, u_X11_comes_19, u_X11_comes_22, u_X11_comes_25, u_X11_comes_26, u_X11_comes_28, u_X11_comes_31, u_X11_comes_32, u_X11_comes_33, u_X11_comes_34, u_X11_comes_35, u_X11_comes_36, u_X11_comes_38, u_X11_comes_41, u_X11_comes_43, u_X11_comes_45, u_X11_comes_48, u_X11_comes_50, u_X11_comes_51, u_X11_comes_52, u_X11_comes_54, u_X11_comes_55, u_X11_comes_56, u_X11_comes_57, u_X11_comes_58, u_X11_comes_60, u_X11_comes_61, u_X11_comes_64, u_X11_comes_67, u_X11_comes_68, u_X11_comes_71, u_X11_comes_74, u_X11_comes_75, u_X11_comes_78, u_X11_comes_79, zcl_i, zcl_r, zcl_l, zcl_0, Option.bind_some, Option.bind_none, Option.toList_some, Option.toList_none, List.cons_append, List.nil_append, zk_wI, zk_wR, zk_wC, zr_wI, zr_wC, zi_wR, zn_wI, zn_wR, zn_wC, if_true, if_false, true_or, or_true, or_false, false_or, true_and, and_true, ↓reduceIte, reduceCtorEq, Nat.reduceEqDiff, Nat.reduceLT, Nat.reduceLeDiff, Nat.reduceAdd, Nat.reduceSub, Nat.reduceMul, Int32.reduceLT, Int32.reduceLE, Int32.reduceAdd, Int32.reduceMul, Int32.reduceSub, Int32.reduceToNatClampNeg, and_self, or_self, and_false, false_and, not_true_eq_false, not_false_eq_true, c_noSheetN hf, K37 S, c_refused (S1 0)]
  · by_cases hl : 0 ≤ la.toInt ∧ la.toInt < (3 : Nat)
    · rcases ord I0 hj hl hw0 (i := i) (n := n) with ⟨r, f, h9, r0, c1, P, c2⟩ | ⟨N, a, m, q, h9, rfl, rfl, hm, ham, T, hN0, hq, h8, c1, P, c2⟩
      · refine ⟨.inl r, h9, zwI h9 37 0 f, ?_, ?_, Inv_by I0 P Pres.rfl, Inv_n P Pres.rfl, Inv_u P Pres.rfl⟩
        · rw [e_X10_comes]
          simp +decide only [u_X10_comes_0, u_X10_comes_1, u_X10_comes_2, u_X10_comes_3, u_X10_comes_4, u_X10_comes_6, u_X10_comes_7, u_X10_comes_10, u_X10_comes_12, u_X10_comes_14, u_X10_comes_17, u_X10_comes_19, u_X10_comes_20, u_X10_comes_21, u_X10_comes_22, u_X10_comes_25, u_X10_comes_28, u_X10_comes_29, u_X10_comes_32, u_X10_comes_35, u_X10_comes_38, u_X10_comes_39, u_X10_comes_42, u_X10_comes_43, zcl_i, zcl_r, zcl_l, zcl_0, Option.bind_some, Option.bind_none, Option.toList_some, Option.toList_none, List.cons_append, List.nil_append, zk_wI, zk_wR, zk_wC, zr_wI, zr_wC, zi_wR, zn_wI, zn_wR, zn_wC, if_true, if_false, true_or, or_true, or_false, false_or, true_and, and_true, ↓reduceIte, reduceCtorEq, Nat.reduceEqDiff, Nat.reduceLT, Nat.reduceLeDiff, Nat.reduceAdd, Nat.reduceSub, Nat.reduceMul, Int32.reduceLT, Int32.reduceLE, Int32.reduceAdd, Int32.reduceMul, Int32.reduceSub, Int32.reduceToNatClampNeg, and_self, or_self, and_false, false_and, not_true_eq_false, not_false_eq_true, K1 S, c1, zn_lt r0]
        · rw [e_X11_comes]
          simp +decide only [u_X11_comes_0, u_X11_comes_1, u_X11_comes_4, u_X11_comes_7, u_X11_comes_8, u_X11_comes_9, u_X11_comes_12, u_X11_comes_13, u_X11_comes_14, u_X11_comes_15, u_X11_comes_16, u_X11_comes_19, u_X11_comes_22, u_X11_comes_25, u_X11_comes_26, u_X11_comes_28, u_X11_comes_31, u_X11_comes_32, u_X11_comes_33, u_X11_comes_34, u_X11_comes_35, u_X11_comes_36, u_X11_comes_38, u_X11_comes_41, u_X11_comes_43, u_X11_comes_45, u_X11_comes_48, u_X11_comes_50, u_X11_comes_51, u_X11_comes_52, u_X11_comes_54, u_X11_comes_55, u_X11_comes_56, u_X11_comes_57, u_X11_comes_58, u_X11_comes_60, u_X11_comes_61, u_X11_comes_64, u_X11_comes_67, u_X11_comes_68, u_X11_comes_71, u_X11_comes_74, u_X11_comes_75, u_X11_comes_78, u_X11_comes_79, zcl_i, zcl_r, zcl_l, zcl_0, Option.bind_some, Option.bind_none, Option.toList_some, Option.toList_none, List.cons_append, List.nil_append, zk_wI, zk_wR, zk_wC, zr_wI, zr_wC, zi_wR, zn_wI, zn_wR, zn_wC, if_true, if_false, true_or, or_true, or_false, false_or, true_and, and_true, ↓reduceIte, reduceCtorEq, Nat.reduceEqDiff, Nat.reduceLT, Nat.reduceLeDiff, Nat.reduceAdd, Nat.reduceSub, Nat.reduceMul, Int32.reduceLT, Int32.reduceLE, Int32.reduceAdd, Int32.reduceMul, Int32.reduceSub, Int32.reduceToNatClampNeg, and_self, or_self, and_false, false_and, not_true_eq_false, not_false_eq_true, c_noSheetY hj, K37 (P.St (S1 f)), c_in, l64l_0, l64r_2, zle2, hl, c2 _ h9 Pres.rfl, r0]
      · have SH : St h9 := P.St (S1 0)
        obtain ⟨kn, k1, k3, k4, pn, go⟩ := nightly I0 P T hj hm ham hq h8
        have pn' := fun d => pn d h9 (nI kn) Pres.rfl (fun _ _ _ => rfl)
        generalize hs : oP (mT h9) q m (0, nI kn, 0, 0, 0, 0) = s at pn'
        generalize hH : cN h9 11 s (zi h9 37 1) (zi h9 37 9) = H at pn'
        have PH : Pres h9 H := by rw [← hH]; exact Pres.rfl.cN (by omega)
        have SH' : St H := PH.St SH
        have qH : ∀ x y, ¬ (x = 11) → zi H x y = zi h9 x y := fun x y z => by rw [← hH]; exact zi_cN z
        have go' := fun d => go d (zwI H 37 0 0) (nI kn) PH.both
        rw [hs] at go'
        have k4H : zi (zwI H 37 0 0) 37 8 = nI kn := by rw [zi_wI, if_neg (by omega), qH 37 8 (by omega)]; exact k4
        have hmj : 60 * nI j = nI (60 * j) := pk_mul 60 j
        have P3 : Pres (zwI h9 37 0 0) (mN (zwI H 37 0 0) s) := (PH.both).mN
        have y4 : zi H 11 4 = s.2.2.2.2.2 := by
          rw [← hH]
          exact zi_cN4
        refine ⟨.inl (if s.2.2.2.2.2 = 0 then 0 else 1), H, mN (zwI H 37 0 0) s, ?_, ?_, Inv_by I0 P P3, Inv_n P P3, Inv_u P P3⟩
        · rw [e_X10_comes]
          simp +decide only [u_X10_comes_0, u_X10_comes_1, u_X10_comes_2, u_X10_comes_3, u_X10_comes_4, u_X10_comes_6, u_X10_comes_7, u_X10_comes_10, u_X10_comes_12, u_X10_comes_14, u_X10_comes_17, u_X10_comes_19, u_X10_comes_20, u_X10_comes_21, u_X10_comes_22, u_X10_comes_25, u_X10_comes_28, u_X10_comes_29, u_X10_comes_32, u_X10_comes_35, u_X10_comes_38, u_X10_comes_39, u_X10_comes_42, u_X10_comes_43, zcl_i, zcl_r, zcl_l, zcl_0, Option.bind_some, Option.bind_none, Option.toList_some, Option.toList_none, List.cons_append, List.nil_append, zk_wI, zk_wR, zk_wC, zr_wI, zr_wC, zi_wR, zn_wI, zn_wR, zn_wC, if_true, if_false, true_or, or_true, or_false, false_or, true_and, and_true, ↓reduceIte, reduceCtorEq, Nat.reduceEqDiff, Nat.reduceLT, Nat.reduceLeDiff, Nat.reduceAdd, Nat.reduceSub, Nat.reduceMul, Int32.reduceLT, Int32.reduceLE, Int32.reduceAdd, Int32.reduceMul, Int32.reduceSub, Int32.reduceToNatClampNeg, and_self, or_self, and_false, false_and, not_true_eq_false, not_false_eq_true, K1 S, K1 SH, K1 SH', R1_9 SH', K11 SH', c1, k3, pn', y4]
          split <;> rfl
        · rw [e_X11_comes]
          simp +decide only [u_X11_comes_0, u_X11_comes_1, u_X11_comes_4, u_X11_comes_7, u_X11_comes_8, u_X11_comes_9, u_X11_comes_12, u_X11_comes_13, u_X11_comes_14, u_X11_comes_15, u_X11_comes_16, u_X11_comes_19, u_X11_comes_22, u_X11_comes_25, u_X11_comes_26, u_X11_comes_28, u_X11_comes_31, u_X11_comes_32, u_X11_comes_33, u_X11_comes_34, u_X11_comes_35, u_X11_comes_36, u_X11_comes_38, u_X11_comes_41, u_X11_comes_43, u_X11_comes_45, u_X11_comes_48, u_X11_comes_50, u_X11_comes_51, u_X11_comes_52, u_X11_comes_54, u_X11_comes_55, u_X11_comes_56, u_X11_comes_57, u_X11_comes_58, u_X11_comes_60, u_X11_comes_61, u_X11_comes_64, u_X11_comes_67, u_X11_comes_68, u_X11_comes_71, u_X11_comes_74, u_X11_comes_75, u_X11_comes_78, u_X11_comes_79, zcl_i, zcl_r, zcl_l, zcl_0, Option.bind_some, Option.bind_none, Option.toList_some, Option.toList_none, List.cons_append, List.nil_append, zk_wI, zk_wR, zk_wC, zr_wI, zr_wC, zi_wR, zn_wI, zn_wR, zn_wC, if_true, if_false, true_or, or_true, or_false, false_or, true_and, and_true, ↓reduceIte, reduceCtorEq, Nat.reduceEqDiff, Nat.reduceLT, Nat.reduceLeDiff, Nat.reduceAdd, Nat.reduceSub, Nat.reduceMul, Int32.reduceLT, Int32.reduceLE, Int32.reduceAdd, Int32.reduceMul, Int32.reduceSub, Int32.reduceToNatClampNeg, and_self, or_self, and_false, false_and, not_true_eq_false, not_false_eq_true, c_noSheetY hj, K37 SH', c_in, l64l_0, l64r_2, zle2, hl, c2 _ H PH, k4H, hmj, nI_add, go', zk_mN, zi_mN23]
          split <;> rfl
    · have hg : ¬ ((0 ≤ la.toInt ∧ la.toInt < (3 : Nat)) ∧ (0 ≤ (0 : Int32).toInt ∧ (0 : Int32).toInt < (4 : Nat))) := fun z => hl z.1
      refine ⟨.inl (-2), zwI h 1 6 0, zwI (zwI h 1 6 0) 37 0 0, ?_, ?_, fin 0, Nat.le_add_right _ _, Nat.le_add_right _ _⟩
      · rw [e_X10_comes]
        simp +decide only [u_X10_comes_0, u_X10_comes_1, u_X10_comes_2, u_X10_comes_3, u_X10_comes_4, u_X10_comes_6, u_X10_comes_7, u_X10_comes_10, u_X10_comes_12, u_X10_comes_14, u_X10_comes_17, u_X10_comes_19, u_X10_comes_20, u_X10_comes_21, u_X10_comes_22, u_X10_comes_25, u_X10_comes_28, u_X10_comes_29, u_X10_comes_32, u_X10_comes_35, u_X10_comes_38, u_X10_comes_39, u_X10_comes_42, u_X10_comes_43, zcl_i, zcl_r, zcl_l, zcl_0, Option.bind_some, Option.bind_none, Option.toList_some, Option.toList_none, List.cons_append, List.nil_append, zk_wI, zk_wR, zk_wC, zr_wI, zr_wC, zi_wR, zn_wI, zn_wR, zn_wC, if_true, if_false, true_or, or_true, or_false, false_or, true_and, and_true, ↓reduceIte, reduceCtorEq, Nat.reduceEqDiff, Nat.reduceLT, Nat.reduceLeDiff, Nat.reduceAdd, Nat.reduceSub, Nat.reduceMul, Int32.reduceLT, Int32.reduceLE, Int32.reduceAdd, Int32.reduceMul, Int32.reduceSub, Int32.reduceToNatClampNeg, and_self, or_self, and_false, false_and, not_true_eq_false, not_false_eq_true, K1 S, ordL S hj hg]
      · rw [e_X11_comes]
        simp +decide only [u_X11_comes_0, u_X11_comes_1, u_X11_comes_4, u_X11_comes_7, u_X11_comes_8, u_X11_comes_9, u_X11_comes_12, u_X11_comes_13, u_X11_comes_14, u_X11_comes_15, u_X11_comes_16, u_X11_comes_19, u_X11_comes_22, u_X11_comes_25, u_X11_comes_26, u_X11_comes_28, u_X11_comes_31, u_X11_comes_32, u_X11_comes_33, u_X11_comes_34, u_X11_comes_35, u_X11_comes_36, u_X11_comes_38, u_X11_comes_41, u_X11_comes_43, u_X11_comes_45, u_X11_comes_48, u_X11_comes_50, u_X11_comes_51, u_X11_comes_52, u_X11_comes_54, u_X11_comes_55, u_X11_comes_56, u_X11_comes_57, u_X11_comes_58, u_X11_comes_60, u_X11_comes_61, u_X11_comes_64, u_X11_comes_67, u_X11_comes_68, u_X11_comes_71, u_X11_comes_74, u_X11_comes_75, u_X11_comes_78, u_X11_comes_79, zcl_i, zcl_r, zcl_l, zcl_0, Option.bind_some, Option.bind_none, Option.toList_some, Option.toList_none, List.cons_append, List.nil_append, zk_wI, zk_wR, zk_wC, zr_wI, zr_wC, zi_wR, zn_wI, zn_wR, zn_wC, if_true, if_false, true_or, or_true, or_false, false_or, true_and, and_true, ↓reduceIte, reduceCtorEq, Nat.reduceEqDiff, Nat.reduceLT, Nat.reduceLeDiff, Nat.reduceAdd, Nat.reduceSub, Nat.reduceMul, Int32.reduceLT, Int32.reduceLE, Int32.reduceAdd, Int32.reduceMul, Int32.reduceSub, Int32.reduceToNatClampNeg, and_self, or_self, and_false, false_and, not_true_eq_false, not_false_eq_true, c_noSheetY hj, K37 S, c_refused (S1 0), c_in, l64l_0, l64r_2, zle2, hl]
/-- bits, as the reference counts them -/
def zpops : Nat → Int32 → Int32 → Int32
  | 0, _, n => n
  | f + 1, l, n => if 0 < l then zpops f (l >>> (1 &&& 31)) (n + (l &&& 1)) else n
def zpope : Nat → Int32 → Bool
  | 0, l => !decide (0 < l)
  | f + 1, l => if 0 < l then zpope f (l >>> (1 &&& 31)) else true
def zpct (x : Int32) : Int32 := zpops 9 x 0
theorem zpct_all : ∀ x, x < 256 → zpope 9 (nI x) = true ∧ zpct (nI x) < 9 := by decide +kernel
theorem c_bits {d : Nat} {h : zH} {x : Nat} (hx : x < 256) : zcall (zP zM) (d + 1) 90 [.inl (nI x)] h = some (some (.inl (zpct (nI x))), h) := by
  have key : ∀ (f : Nat) (l n : Int32), zpope f l = true → zX d tb_X11_bits 4 [some (.inl (nI x)), some (.inl n), some (.inl l)] [] h = some (some (.inl (zpops f l n)), h) := by
    intro f
    induction f with
    | zero =>
      intro l n hl
      have g : ¬ 0 < l := by simpa [zpope] using hl
      simp +decide only [u_X11_bits_0, u_X11_bits_1, u_X11_bits_2, u_X11_bits_3, u_X11_bits_4, u_X11_bits_5, u_X11_bits_8, u_X11_bits_9, u_X11_bits_10, u_X11_bits_11, u_X11_bits_12, u_X11_bits_13, u_X11_bits_14, u_X11_bits_15, u_X11_bits_16, u_X11_bits_17, u_X11_bits_18, u_X11_bits_21, u_X11_bits_22, zcl_i, zcl_r, zcl_l, zcl_0, Option.bind_some, Option.bind_none, Option.toList_some, Option.toList_none, List.cons_append, List.nil_append, zk_wI, zk_wR, zk_wC, zr_wI, zr_wC, zi_wR, zn_wI, zn_wR, zn_wC, if_true, if_false, true_or, or_true, or_false, false_or, true_and, and_true, ↓reduceIte, reduceCtorEq, Nat.reduceEqDiff, Nat.reduceLT, Nat.reduceLeDiff, Nat.reduceAdd, Nat.reduceSub, Nat.reduceMul, Int32.reduceLT, Int32.reduceLE, Int32.reduceAdd, Int32.reduceMul, Int32.reduceSub, Int32.reduceToNatClampNeg, and_self, or_self, and_false, false_and, not_true_eq_false, not_false_eq_true, g, zpops]
    | succ f ih =>
      intro l n hl
      by_cases g : 0 < l
      · rw [zpope, if_pos g] at hl
        rw [u_X11_bits_4]
        simp +decide only [u_X11_bits_0, u_X11_bits_1, u_X11_bits_2, u_X11_bits_3, u_X11_bits_5, u_X11_bits_8, u_X11_bits_9, u_X11_bits_10, u_X11_bits_11, u_X11_bits_12, u_X11_bits_13, u_X11_bits_14, u_X11_bits_15, u_X11_bits_16, u_X11_bits_17, u_X11_bits_18, u_X11_bits_21, u_X11_bits_22, zcl_i, zcl_r, zcl_l, zcl_0, Option.bind_some, Option.bind_none, Option.toList_some, Option.toList_none, List.cons_append, List.nil_append, zk_wI, zk_wR, zk_wC, zr_wI, zr_wC, zi_wR, zn_wI, zn_wR, zn_wC, if_true, if_false, true_or, or_true, or_false, false_or, true_and, and_true, ↓reduceIte, reduceCtorEq, Nat.reduceEqDiff, Nat.reduceLT, Nat.reduceLeDiff, Nat.reduceAdd, Nat.reduceSub, Nat.reduceMul, Int32.reduceLT, Int32.reduceLE, Int32.reduceAdd, Int32.reduceMul, Int32.reduceSub, Int32.reduceToNatClampNeg, and_self, or_self, and_false, false_and, not_true_eq_false, not_false_eq_true, g, zpops]
        exact ih _ _ hl
      · simp +decide only [u_X11_bits_0, u_X11_bits_1, u_X11_bits_2, u_X11_bits_3, u_X11_bits_4, u_X11_bits_5, u_X11_bits_8, u_X11_bits_9, u_X11_bits_10, u_X11_bits_11, u_X11_bits_12, u_X11_bits_13, u_X11_bits_14, u_X11_bits_15, u_X11_bits_16, u_X11_bits_17, u_X11_bits_18, u_X11_bits_21, u_X11_bits_22, zcl_i, zcl_r, zcl_l, zcl_0, Option.bind_some, Option.bind_none, Option.toList_some, Option.toList_none, List.cons_append, List.nil_append, zk_wI, zk_wR, zk_wC, zr_wI, zr_wC, zi_wR, zn_wI, zn_wR, zn_wC, if_true, if_false, true_or, or_true, or_false, false_or, true_and, and_true, ↓reduceIte, reduceCtorEq, Nat.reduceEqDiff, Nat.reduceLT, Nat.reduceLeDiff, Nat.reduceAdd, Nat.reduceSub, Nat.reduceMul, Int32.reduceLT, Int32.reduceLE, Int32.reduceAdd, Int32.reduceMul, Int32.reduceSub, Int32.reduceToNatClampNeg, and_self, or_self, and_false, false_and, not_true_eq_false, not_false_eq_true, g, zpops]
  rw [e_X11_bits]
  simp +decide only [u_X11_bits_0, u_X11_bits_1, u_X11_bits_2, u_X11_bits_3, u_X11_bits_5, u_X11_bits_8, u_X11_bits_9, u_X11_bits_10, u_X11_bits_11, u_X11_bits_12, u_X11_bits_13, u_X11_bits_14, u_X11_bits_15, u_X11_bits_16, u_X11_bits_17, u_X11_bits_18, u_X11_bits_21, u_X11_bits_22, zcl_i, zcl_r, zcl_l, zcl_0, Option.bind_some, Option.bind_none, Option.toList_some, Option.toList_none, List.cons_append, List.nil_append, zk_wI, zk_wR, zk_wC, zr_wI, zr_wC, zi_wR, zn_wI, zn_wR, zn_wC, if_true, if_false, true_or, or_true, or_false, false_or, true_and, and_true, ↓reduceIte, reduceCtorEq, Nat.reduceEqDiff, Nat.reduceLT, Nat.reduceLeDiff, Nat.reduceAdd, Nat.reduceSub, Nat.reduceMul, Int32.reduceLT, Int32.reduceLE, Int32.reduceAdd, Int32.reduceMul, Int32.reduceSub, Int32.reduceToNatClampNeg, and_self, or_self, and_false, false_and, not_true_eq_false, not_false_eq_true]
  exact key 9 (nI x) 0 (zpct_all x hx).1
/-- as the library counts them -/
def zbc (x : Int32) : Int32 :=
  let a := x - ((x.toUInt32 >>> ((1 : Int32).toUInt32 &&& Int32.toUInt32 31)).toInt32 &&& 1431655765)
  let b := (a &&& 858993459) + ((a.toUInt32 >>> ((2 : Int32).toUInt32 &&& Int32.toUInt32 31)).toInt32 &&& 858993459)
  let c := (b + (b.toUInt32 >>> ((4 : Int32).toUInt32 &&& Int32.toUInt32 31)).toInt32) &&& 252645135
  let e := c + (c.toUInt32 >>> ((8 : Int32).toUInt32 &&& Int32.toUInt32 31)).toInt32
  let f := e + (e.toUInt32 >>> ((16 : Int32).toUInt32 &&& Int32.toUInt32 31)).toInt32
  f &&& 63
theorem zbc_all : ∀ x, x < 256 → zbc (nI x) = zpct (nI x) := by decide +kernel
theorem c_bitCount {d : Nat} {h : zH} {x : Nat} (hx : x < 256) : zcall (zP zM) (d + 1) 143 [.inl (nI x)] h = some (some (.inl (zpct (nI x))), h) := by
  rw [← zbc_all x hx, e_J6_bitCount_0f7a4]
  generalize nI x = v
  simp only [u_J6_bitCount_0f7a4_0, u_J6_bitCount_0f7a4_1, u_J6_bitCount_0f7a4_2, u_J6_bitCount_0f7a4_3, u_J6_bitCount_0f7a4_4, u_J6_bitCount_0f7a4_7, u_J6_bitCount_0f7a4_8, u_J6_bitCount_0f7a4_9, u_J6_bitCount_0f7a4_10, u_J6_bitCount_0f7a4_11, u_J6_bitCount_0f7a4_14, u_J6_bitCount_0f7a4_15, u_J6_bitCount_0f7a4_16, u_J6_bitCount_0f7a4_17, u_J6_bitCount_0f7a4_18, u_J6_bitCount_0f7a4_21, u_J6_bitCount_0f7a4_22, u_J6_bitCount_0f7a4_23, u_J6_bitCount_0f7a4_24, u_J6_bitCount_0f7a4_25, u_J6_bitCount_0f7a4_26, u_J6_bitCount_0f7a4_27, u_J6_bitCount_0f7a4_28, u_J6_bitCount_0f7a4_29, u_J6_bitCount_0f7a4_32, u_J6_bitCount_0f7a4_33, u_J6_bitCount_0f7a4_34, u_J6_bitCount_0f7a4_35, u_J6_bitCount_0f7a4_36, u_J6_bitCount_0f7a4_38, u_J6_bitCount_0f7a4_39, u_J6_bitCount_0f7a4_40, u_J6_bitCount_0f7a4_41, u_J6_bitCount_0f7a4_42, u_J6_bitCount_0f7a4_43, u_J6_bitCount_0f7a4_45, u_J6_bitCount_0f7a4_46, u_J6_bitCount_0f7a4_47, u_J6_bitCount_0f7a4_48, u_J6_bitCount_0f7a4_49, u_J6_bitCount_0f7a4_51, u_J6_bitCount_0f7a4_52, zbc]
