/-! telling, whispering, kinds, readings -/
theorem c_leave {d : Nat} {h : zH} (S : St h) {c : Int32} : zcall (zP zM) (d + 1) 51 [.inr (.inr (some 9)), .inl c] h = some (none, zwI h 9 0 (31 * zi h 9 0 + c)) := by
  rw [e_X9_leave]
  simp +decide only [u_X9_leave_0, u_X9_leave_1, u_X9_leave_3, u_X9_leave_4, u_X9_leave_7, u_X9_leave_8, u_X9_leave_9, u_X9_leave_10, u_X9_leave_13, zcl_i, zcl_r, zcl_l, zcl_0, Option.bind_some, Option.bind_none, Option.toList_some, Option.toList_none, List.cons_append, List.nil_append, zk_wI, zk_wR, zk_wC, zr_wI, zr_wC, zi_wR, zn_wI, zn_wR, zn_wC, if_true, if_false, true_or, or_true, or_false, false_or, true_and, and_true, ↓reduceIte, reduceCtorEq, Nat.reduceEqDiff, Nat.reduceLT, Nat.reduceLeDiff, Nat.reduceAdd, Nat.reduceSub, Nat.reduceMul, Int32.reduceLT, Int32.reduceLE, Int32.reduceAdd, Int32.reduceMul, Int32.reduceSub, Int32.reduceToNatClampNeg, and_self, or_self, and_false, false_and, not_true_eq_false, not_false_eq_true, K9 S]
theorem isT_w {h : zH} {q k : Nat} {num na nb te lo : Int32} (T : isT h q k num na nb te lo) {a j : Nat} {v : Int32} (hne : q ≠ a) : isT (zwI h a j v) q k num na nb te lo := by
  obtain ⟨h1, h2, h3, h4, h5, h6, h7⟩ := T
  have e : ∀ y, zi (zwI h a j v) q y = zi h q y := fun y => by rw [zi_wI, if_neg (fun z => hne z.1)]
  exact ⟨h1, h2, (e 0).trans h3, (e 1).trans h4, (e 2).trans h5, (e 3).trans h6, (e 4).trans h7⟩
/-- the trace with n left in it -/
def trc (h : zH) (n : Int32) : zH := zwI h 9 0 (31 * zi h 9 0 + n)
theorem St_trc {h : zH} {n : Int32} : St (trc h n) = St h := rfl
theorem isT_trc {h : zH} {q k : Nat} {num na nb te lo : Int32} (T : isT h q k num na nb te lo) (hq : 64 ≤ q) {n : Int32} : isT (trc h n) q k num na nb te lo := isT_w T (by omega)
theorem c_plain {d : Nat} {h : zH} (S : St h) {q k : Nat} {num na nb te lo : Int32} (T : isT h q k num na nb te lo) (hq : 64 ≤ q) : zcall (zP zM) (d + 2) 48 [.inr (.inr (some q)), .inr (.inr (some 9))] h = some (some (.inl te), trc h 1) := by
  obtain ⟨h1, h2, h3, h4, h5, h6, h7⟩ := T
  have e : zi (zwI h 9 0 (31 * zi h 9 0 + 1)) q 3 = te := by rw [zi_wI, if_neg (by omega)]; exact h6
  rw [e_X8_plainTelling]
  rcases (show k = 0 ∨ k = 1 ∨ k = 2 by omega) with rfl | rfl | rfl <;>
  · simp +decide only [u_X8_plainTelling_0, u_X8_plainTelling_1, u_X8_plainTelling_2, u_X8_plainTelling_5, u_X8_plainTelling_6, u_X8_plainTelling_9, zcl_i, zcl_r, zcl_l, zcl_0, Option.bind_some, Option.bind_none, Option.toList_some, Option.toList_none, List.cons_append, List.nil_append, zk_wI, zk_wR, zk_wC, zr_wI, zr_wC, zi_wR, zn_wI, zn_wR, zn_wC, if_true, if_false, true_or, or_true, or_false, false_or, true_and, and_true, ↓reduceIte, reduceCtorEq, Nat.reduceEqDiff, Nat.reduceLT, Nat.reduceLeDiff, Nat.reduceAdd, Nat.reduceSub, Nat.reduceMul, Int32.reduceLT, Int32.reduceLE, Int32.reduceAdd, Int32.reduceMul, Int32.reduceSub, Int32.reduceToNatClampNeg, and_self, or_self, and_false, false_and, not_true_eq_false, not_false_eq_true, K9 S, c_leave S, h1, kcls, e]
    rfl
theorem c_tell8 {d : Nat} {h : zH} (S : St h) {q k : Nat} {num na nb te lo : Int32} (T : isT h q k num na nb te lo) (hq : 64 ≤ q) : zcall (zP zM) (d + 3) 47 [.inr (.inr (some q)), .inr (.inr (some 9))] h = some (some (.inl te), trc h 1) := by
  have h1 := T.1
  rw [e_X8_telling]
  rcases (show k = 0 ∨ k = 1 ∨ k = 2 by have := T.2.1; omega) with rfl | rfl | rfl <;>
  simp +decide only [u_X8_telling_0, u_X8_telling_1, u_X8_telling_2, u_X8_telling_5, zcl_i, zcl_r, zcl_l, zcl_0, Option.bind_some, Option.bind_none, Option.toList_some, Option.toList_none, List.cons_append, List.nil_append, zk_wI, zk_wR, zk_wC, zr_wI, zr_wC, zi_wR, zn_wI, zn_wR, zn_wC, if_true, if_false, true_or, or_true, or_false, false_or, true_and, and_true, ↓reduceIte, reduceCtorEq, Nat.reduceEqDiff, Nat.reduceLT, Nat.reduceLeDiff, Nat.reduceAdd, Nat.reduceSub, Nat.reduceMul, Int32.reduceLT, Int32.reduceLE, Int32.reduceAdd, Int32.reduceMul, Int32.reduceSub, Int32.reduceToNatClampNeg, and_self, or_self, and_false, false_and, not_true_eq_false, not_false_eq_true, h1, kcls, c_plain S T hq]
theorem c_tell0 {d : Nat} {h : zH} (S : St h) {q k : Nat} {num na nb te lo : Int32} (T : isT h q k num na nb te lo) (hq : 64 ≤ q) : zcall (zP zM) (d + 4) 4 [.inr (.inr (some q)), .inr (.inr (some 9))] h = some (some (.inl (te + 100)), trc (trc h 2) 1) := by
  have h1 := T.1
  have e : zwI h 9 0 (31 * zi h 9 0 + 2) = trc h 2 := rfl
  have h8 : zk (trc h 2) q = zk h q := rfl
  rw [e_X0_telling]
  rcases (show k = 0 ∨ k = 1 ∨ k = 2 by have := T.2.1; omega) with rfl | rfl | rfl <;>
  simp +decide only [u_X0_telling_0, u_X0_telling_1, u_X0_telling_2, u_X0_telling_5, u_X0_telling_6, u_X0_telling_7, u_X0_telling_10, u_X0_telling_12, u_X0_telling_13, zcl_i, zcl_r, zcl_l, zcl_0, Option.bind_some, Option.bind_none, Option.toList_some, Option.toList_none, List.cons_append, List.nil_append, zk_wI, zk_wR, zk_wC, zr_wI, zr_wC, zi_wR, zn_wI, zn_wR, zn_wC, if_true, if_false, true_or, or_true, or_false, false_or, true_and, and_true, ↓reduceIte, reduceCtorEq, Nat.reduceEqDiff, Nat.reduceLT, Nat.reduceLeDiff, Nat.reduceAdd, Nat.reduceSub, Nat.reduceMul, Int32.reduceLT, Int32.reduceLE, Int32.reduceAdd, Int32.reduceMul, Int32.reduceSub, Int32.reduceToNatClampNeg, and_self, or_self, and_false, false_and, not_true_eq_false, not_false_eq_true, K9 S, c_leave S, e, h8, h1, kcls, c_tell8 (show St (trc h 2) from S) (isT_trc T hq) hq]
theorem c_tell5 {d : Nat} {h : zH} (S : St h) {q : Nat} {num na nb te lo : Int32} (T : isT h q 2 num na nb te lo) (hq : 64 ≤ q) : zcall (zP zM) (d + 5) 28 [.inr (.inr (some q)), .inr (.inr (some 9))] h = some (some (.inl (te + 100 + te)), trc (trc (trc (trc h 3) 2) 1) 1) := by
  have h1 := T.1
  have e : zwI h 9 0 (31 * zi h 9 0 + 3) = trc h 3 := rfl
  have h8 : zk (trc h 3) q = zk h q := rfl
  have h9 : zk (trc (trc (trc h 3) 2) 1) q = zk h q := rfl
  rw [e_X5_telling]
  simp +decide only [u_X5_telling_0, u_X5_telling_1, u_X5_telling_2, u_X5_telling_5, u_X5_telling_6, u_X5_telling_7, u_X5_telling_10, u_X5_telling_11, u_X5_telling_12, u_X5_telling_15, u_X5_telling_16, zcl_i, zcl_r, zcl_l, zcl_0, Option.bind_some, Option.bind_none, Option.toList_some, Option.toList_none, List.cons_append, List.nil_append, zk_wI, zk_wR, zk_wC, zr_wI, zr_wC, zi_wR, zn_wI, zn_wR, zn_wC, if_true, if_false, true_or, or_true, or_false, false_or, true_and, and_true, ↓reduceIte, reduceCtorEq, Nat.reduceEqDiff, Nat.reduceLT, Nat.reduceLeDiff, Nat.reduceAdd, Nat.reduceSub, Nat.reduceMul, Int32.reduceLT, Int32.reduceLE, Int32.reduceAdd, Int32.reduceMul, Int32.reduceSub, Int32.reduceToNatClampNeg, and_self, or_self, and_false, false_and, not_true_eq_false, not_false_eq_true, K9 S, c_leave S, e, h8, h9, h1, kcls, c_tell0 (show St (trc h 3) from S) (isT_trc T hq) hq, c_plain (show St (trc (trc (trc h 3) 2) 1) from S) (isT_trc (isT_trc (isT_trc T hq) hq) hq) hq]
theorem Inv_trc {h : zH} (I : Inv h) {n : Int32} : Inv (zwI (trc h n) 37 42 (31 * zi h 37 42 + n)) := by
  obtain ⟨S, h1, m, h2, h3, h4, h5, h6⟩ := I
  refine ⟨S, h1, m, IvT_w (IvT_w h2 (by omega) (by omega)) (by omega) (by omega), IvK_w (IvK_w h3 (by omega)) (by omega), ⟨?_, ?_⟩, IvR_w (IvR_w h5 (by omega)) (by omega), IvS_w (IvS_w h6 (by omega)) (by omega)⟩
  · simp [zi_wI, trc, h4.1]
  · simp [zi_wI, trc, h4.2]
/-- the reference's trace with n left in it -/
def trm (h : zH) (n : Int32) : zH := zwI h 37 42 (31 * zi h 37 42 + n)
theorem tr_comm {h : zH} {n m : Int32} : trm (trc h n) m = trc (trm h m) n := by
  unfold trm trc
  rw [zwI_comm (by omega)]
  simp [zi_wI]
theorem Inv_tr {h : zH} (I : Inv h) {n : Int32} : Inv (trc (trm h n) n) := by
  have := Inv_trc I (n := n)
  rw [← tr_comm]
  unfold trm
  have e : zi (trc h n) 37 42 = zi h 37 42 := by simp [trc, zi_wI]
  rw [e]
  exact this
theorem c_tracedm {d : Nat} {h : zH} (S : St h) {c : Int32} : zcall (zP zM) (d + 1) 136 [.inr (.inr (some 37)), .inl c] h = some (none, trm h c) := c_traced S
theorem zi_trm {h : zH} {n : Int32} {x y : Nat} (hx : x ≠ 37) : zi (trm h n) x y = zi h x y := by
  unfold trm
  rw [zi_wI, if_neg (fun z => hx z.1)]
theorem zi_trc {h : zH} {n : Int32} {x y : Nat} (hx : x ≠ 9) : zi (trc h n) x y = zi h x y := by
  unfold trc
  rw [zi_wI, if_neg (fun z => hx z.1)]
theorem zi_trm2 {h : zH} {n : Int32} : zi (trm h n) 37 2 = zi h 37 2 := by simp [trm, zi_wI]
theorem zk_trm {h : zH} {n : Int32} {x : Nat} : zk (trm h n) x = zk h x := rfl
theorem zr_trm {h : zH} {n : Int32} {x y : Nat} : zr (trm h n) x y = zr h x y := rfl
theorem c100 : ∀ c : Fin 8, nI c.val + 100 + nI c.val = 2 * nI c.val + 100 := by decide
theorem st_tell {h : zH} (I : Inv h) {t : Int32} : Stq 74 137 [.inl t] h := by
  have I0 := I
  obtain ⟨S, h1, n, T, h3, h4, h5, h6⟩ := I
  obtain ⟨a0, a1, a2, a3, -, a5⟩ := T
  rcases zrng t (N := n) (by omega) with hf | ⟨j, hj, rfl⟩
  · refine ⟨.inl (-1), h, h, ?_, ?_, I0, by omega, by omega⟩
    · rw [e_X10_tell]
      simp +decide only [u_X10_tell_0, u_X10_tell_1, u_X10_tell_4, u_X10_tell_5, u_X10_tell_8, u_X10_tell_9, u_X10_tell_10, u_X10_tell_13, u_X10_tell_14, u_X10_tell_17, u_X10_tell_18, u_X10_tell_19, u_X10_tell_22, u_X10_tell_25, zcl_i, zcl_r, zcl_l, zcl_0, Option.bind_some, Option.bind_none, Option.toList_some, Option.toList_none, List.cons_append, List.nil_append, zk_wI, zk_wR, zk_wC, zr_wI, zr_wC, zi_wR, zn_wI, zn_wR, zn_wC, if_true, if_false, true_or, or_true, or_false, false_or, true_and, and_true, ↓reduceIte, reduceCtorEq, Nat.reduceEqDiff, Nat.reduceLT, Nat.reduceLeDiff, Nat.reduceAdd, Nat.reduceSub, Nat.reduceMul, Int32.reduceLT, Int32.reduceLE, Int32.reduceAdd, Int32.reduceMul, Int32.reduceSub, Int32.reduceToNatClampNeg, and_self, or_self, and_false, false_and, not_true_eq_false, not_false_eq_true, K1 S, R1_0 S, K2 S, c_taleNo S a1 a0 hf]
    · rw [e_X11_tell]
      simp +decide only [u_X11_tell_0, u_X11_tell_1, u_X11_tell_2, u_X11_tell_5, u_X11_tell_8, u_X11_tell_9, u_X11_tell_10, u_X11_tell_11, u_X11_tell_14, u_X11_tell_15, u_X11_tell_16, u_X11_tell_17, u_X11_tell_18, u_X11_tell_19, u_X11_tell_22, u_X11_tell_23, u_X11_tell_24, u_X11_tell_27, u_X11_tell_28, u_X11_tell_31, u_X11_tell_32, u_X11_tell_33, u_X11_tell_36, u_X11_tell_37, u_X11_tell_38, u_X11_tell_41, u_X11_tell_42, u_X11_tell_43, u_X11_tell_46, u_X11_tell_47, u_X11_tell_48, u_X11_tell_51, u_X11_tell_52, u_X11_tell_55, u_X11_tell_56, u_X11_tell_57, u_X11_tell_58, u_X11_tell_59, u_X11_tell_62, u_X11_tell_63, u_X11_tell_66, u_X11_tell_67, u_X11_tell_68, u_X11_tell_71, u_X11_tell_72, u_X11_tell_74, u_X11_tell_75, u_X11_tell_78, u_X11_tell_79, u_X11_tell_80, u_X11_tell_81, u_X11_tell_83, u_X11_tell_84, zcl_i, zcl_r, zcl_l, zcl_0, Option.bind_some, Option.bind_none, Option.toList_some, Option.toList_none, List.cons_append, List.nil_append, zk_wI, zk_wR, zk_wC, zr_wI, zr_wC, zi_wR, zn_wI, zn_wR, zn_wC, if_true, if_false, true_or, or_true, or_false, false_or, true_and, and_true, ↓reduceIte, reduceCtorEq, Nat.reduceEqDiff, Nat.reduceLT, Nat.reduceLeDiff, Nat.reduceAdd, Nat.reduceSub, Nat.reduceMul, Int32.reduceLT, Int32.reduceLE, Int32.reduceAdd, Int32.reduceMul, Int32.reduceSub, Int32.reduceToNatClampNeg, and_self, or_self, and_false, false_and, not_true_eq_false, not_false_eq_true, K37 S, c_noTale S a2 a0, hf]
  · have hr := nI_rng hj (show n < 2 ^ 31 by omega)
    have hj8 : j < 8 := by omega
    obtain ⟨ta, kd, t1, t2, t3, t4, TT, c, -, te, -, -, -, v3, -, -, -, v5, -⟩ := a5 j hj
    have u1 := TT.1
    have hk : kd = 0 ∨ kd = 1 ∨ kd = 2 := by have := TT.2.1; omega
    have h41 : ∀ {h' : zH} {n}, zi h' 41 j = zi h 41 j → zi (trm h' n) 41 j = zi h 41 j := fun e => (zi_trm (by decide)).trans e
    rcases hk with rfl | rfl | rfl
    · refine ⟨.inl (zi h 41 j), trc h 1, trm (trc h 1) 1, ?_, ?_, by rw [tr_comm]; exact Inv_tr I0, Nat.le_add_right _ _, Nat.le_add_right _ _⟩
      · rw [e_X10_tell]
        simp +decide only [u_X10_tell_0, u_X10_tell_1, u_X10_tell_4, u_X10_tell_5, u_X10_tell_8, u_X10_tell_9, u_X10_tell_10, u_X10_tell_13, u_X10_tell_14, u_X10_tell_17, u_X10_tell_18, u_X10_tell_19, u_X10_tell_22, u_X10_tell_25, zcl_i, zcl_r, zcl_l, zcl_0, Option.bind_some, Option.bind_none, Option.toList_some, Option.toList_none, List.cons_append, List.nil_append, zk_wI, zk_wR, zk_wC, zr_wI, zr_wC, zi_wR, zn_wI, zn_wR, zn_wC, if_true, if_false, true_or, or_true, or_false, false_or, true_and, and_true, ↓reduceIte, reduceCtorEq, Nat.reduceEqDiff, Nat.reduceLT, Nat.reduceLeDiff, Nat.reduceAdd, Nat.reduceSub, Nat.reduceMul, Int32.reduceLT, Int32.reduceLE, Int32.reduceAdd, Int32.reduceMul, Int32.reduceSub, Int32.reduceToNatClampNeg, and_self, or_self, and_false, false_and, not_true_eq_false, not_false_eq_true, K1 S, R1_0 S, R1_5 S, K2 S, c_taleAt S a1 a0 hj, t1, u1, kcls, c_tell8 S TT t2]
      · have b2 : zi (trc h 1) 37 2 = nI n := (zi_trc (by decide)).trans a2
        have b4 : zi (trc h 1) 38 j = nI 0 := (zi_trc (by decide)).trans t4
        have b5 : zi (trm (trc h 1) 1) 41 j = zi h 41 j := (zi_trm (by decide)).trans (zi_trc (by decide))
        have S1 : St (trc h 1) := S
        rw [e_X11_tell]
        simp +decide only [u_X11_tell_0, u_X11_tell_1, u_X11_tell_2, u_X11_tell_5, u_X11_tell_8, u_X11_tell_9, u_X11_tell_10, u_X11_tell_11, u_X11_tell_14, u_X11_tell_15, u_X11_tell_16, u_X11_tell_17, u_X11_tell_18, u_X11_tell_19, u_X11_tell_22, u_X11_tell_23, u_X11_tell_24, u_X11_tell_27, u_X11_tell_28, u_X11_tell_31, u_X11_tell_32, u_X11_tell_33, u_X11_tell_36, u_X11_tell_37, u_X11_tell_38, u_X11_tell_41, u_X11_tell_42, u_X11_tell_43, u_X11_tell_46, u_X11_tell_47, u_X11_tell_48, u_X11_tell_51, u_X11_tell_52, u_X11_tell_55, u_X11_tell_56, u_X11_tell_57, u_X11_tell_58, u_X11_tell_59, u_X11_tell_62, u_X11_tell_63, u_X11_tell_66, u_X11_tell_67, u_X11_tell_68, u_X11_tell_71, u_X11_tell_72, u_X11_tell_74, u_X11_tell_75, u_X11_tell_78, u_X11_tell_79, u_X11_tell_80, u_X11_tell_81, u_X11_tell_83, u_X11_tell_84, zcl_i, zcl_r, zcl_l, zcl_0, Option.bind_some, Option.bind_none, Option.toList_some, Option.toList_none, List.cons_append, List.nil_append, zk_wI, zk_wR, zk_wC, zr_wI, zr_wC, zi_wR, zn_wI, zn_wR, zn_wC, if_true, if_false, true_or, or_true, or_false, false_or, true_and, and_true, ↓reduceIte, reduceCtorEq, Nat.reduceEqDiff, Nat.reduceLT, Nat.reduceLeDiff, Nat.reduceAdd, Nat.reduceSub, Nat.reduceMul, Int32.reduceLT, Int32.reduceLE, Int32.reduceAdd, Int32.reduceMul, Int32.reduceSub, Int32.reduceToNatClampNeg, and_self, or_self, and_false, false_and, not_true_eq_false, not_false_eq_true, zk_trm, zr_trm, K37 S1, c_noTale S1 b2 a0, hr, R37_3 S1, R37_6 S1, K38 S1, K41 S1, zix_nI hj8 (by decide), b4, b5, c_tracedm S1]
    · refine ⟨.inl (zi h 41 j + 100), trc (trc h 2) 1, trm (trm (trc (trc h 2) 1) 2) 1, ?_, ?_, ?_, Nat.le_add_right _ _, Nat.le_add_right _ _⟩
      · rw [e_X10_tell]
        simp +decide only [u_X10_tell_0, u_X10_tell_1, u_X10_tell_4, u_X10_tell_5, u_X10_tell_8, u_X10_tell_9, u_X10_tell_10, u_X10_tell_13, u_X10_tell_14, u_X10_tell_17, u_X10_tell_18, u_X10_tell_19, u_X10_tell_22, u_X10_tell_25, zcl_i, zcl_r, zcl_l, zcl_0, Option.bind_some, Option.bind_none, Option.toList_some, Option.toList_none, List.cons_append, List.nil_append, zk_wI, zk_wR, zk_wC, zr_wI, zr_wC, zi_wR, zn_wI, zn_wR, zn_wC, if_true, if_false, true_or, or_true, or_false, false_or, true_and, and_true, ↓reduceIte, reduceCtorEq, Nat.reduceEqDiff, Nat.reduceLT, Nat.reduceLeDiff, Nat.reduceAdd, Nat.reduceSub, Nat.reduceMul, Int32.reduceLT, Int32.reduceLE, Int32.reduceAdd, Int32.reduceMul, Int32.reduceSub, Int32.reduceToNatClampNeg, and_self, or_self, and_false, false_and, not_true_eq_false, not_false_eq_true, K1 S, R1_0 S, R1_5 S, K2 S, c_taleAt S a1 a0 hj, t1, u1, kcls, c_tell0 S TT t2]
      · have b2 : zi (trc (trc h 2) 1) 37 2 = nI n := (zi_trc (by decide)).trans ((zi_trc (by decide)).trans a2)
        have b4 : zi (trc (trc h 2) 1) 38 j = nI 1 := (zi_trc (by decide)).trans ((zi_trc (by decide)).trans t4)
        have b5 : zi (trm (trm (trc (trc h 2) 1) 2) 1) 41 j = zi h 41 j := (zi_trm (by decide)).trans ((zi_trm (by decide)).trans ((zi_trc (by decide)).trans (zi_trc (by decide))))
        have S1 : St (trc (trc h 2) 1) := S
        rw [e_X11_tell]
        simp +decide only [u_X11_tell_0, u_X11_tell_1, u_X11_tell_2, u_X11_tell_5, u_X11_tell_8, u_X11_tell_9, u_X11_tell_10, u_X11_tell_11, u_X11_tell_14, u_X11_tell_15, u_X11_tell_16, u_X11_tell_17, u_X11_tell_18, u_X11_tell_19, u_X11_tell_22, u_X11_tell_23, u_X11_tell_24, u_X11_tell_27, u_X11_tell_28, u_X11_tell_31, u_X11_tell_32, u_X11_tell_33, u_X11_tell_36, u_X11_tell_37, u_X11_tell_38, u_X11_tell_41, u_X11_tell_42, u_X11_tell_43, u_X11_tell_46, u_X11_tell_47, u_X11_tell_48, u_X11_tell_51, u_X11_tell_52, u_X11_tell_55, u_X11_tell_56, u_X11_tell_57, u_X11_tell_58, u_X11_tell_59, u_X11_tell_62, u_X11_tell_63, u_X11_tell_66, u_X11_tell_67, u_X11_tell_68, u_X11_tell_71, u_X11_tell_72, u_X11_tell_74, u_X11_tell_75, u_X11_tell_78, u_X11_tell_79, u_X11_tell_80, u_X11_tell_81, u_X11_tell_83, u_X11_tell_84, zcl_i, zcl_r, zcl_l, zcl_0, Option.bind_some, Option.bind_none, Option.toList_some, Option.toList_none, List.cons_append, List.nil_append, zk_wI, zk_wR, zk_wC, zr_wI, zr_wC, zi_wR, zn_wI, zn_wR, zn_wC, if_true, if_false, true_or, or_true, or_false, false_or, true_and, and_true, ↓reduceIte, reduceCtorEq, Nat.reduceEqDiff, Nat.reduceLT, Nat.reduceLeDiff, Nat.reduceAdd, Nat.reduceSub, Nat.reduceMul, Int32.reduceLT, Int32.reduceLE, Int32.reduceAdd, Int32.reduceMul, Int32.reduceSub, Int32.reduceToNatClampNeg, and_self, or_self, and_false, false_and, not_true_eq_false, not_false_eq_true, zk_trm, zr_trm, K37 S1, c_noTale S1 b2 a0, hr, R37_3 S1, R37_6 S1, K38 S1, K41 S1, zix_nI hj8 (by decide), b4, b5, c_tracedm S1, c_tracedm (show St (trm (trc (trc h 2) 1) 2) from S)]
      · have := Inv_tr (Inv_tr I0 (n := 2)) (n := 1)
        rw [tr_comm, tr_comm, tr_comm, tr_comm]
        rw [tr_comm] at this
        exact this
    · refine ⟨.inl (2 * zi h 41 j + 100), trc (trc (trc (trc h 3) 2) 1) 1, trm (trm (trm (trm (trc (trc (trc (trc h 3) 2) 1) 1) 3) 2) 1) 1, ?_, ?_, ?_, Nat.le_add_right _ _, Nat.le_add_right _ _⟩
      · have e100 : zi h 41 j + 100 + zi h 41 j = 2 * zi h 41 j + 100 := by
          rw [v5]
          exact c100 ⟨te, v3⟩
        rw [e_X10_tell]
        simp +decide only [u_X10_tell_0, u_X10_tell_1, u_X10_tell_4, u_X10_tell_5, u_X10_tell_8, u_X10_tell_9, u_X10_tell_10, u_X10_tell_13, u_X10_tell_14, u_X10_tell_17, u_X10_tell_18, u_X10_tell_19, u_X10_tell_22, u_X10_tell_25, zcl_i, zcl_r, zcl_l, zcl_0, Option.bind_some, Option.bind_none, Option.toList_some, Option.toList_none, List.cons_append, List.nil_append, zk_wI, zk_wR, zk_wC, zr_wI, zr_wC, zi_wR, zn_wI, zn_wR, zn_wC, if_true, if_false, true_or, or_true, or_false, false_or, true_and, and_true, ↓reduceIte, reduceCtorEq, Nat.reduceEqDiff, Nat.reduceLT, Nat.reduceLeDiff, Nat.reduceAdd, Nat.reduceSub, Nat.reduceMul, Int32.reduceLT, Int32.reduceLE, Int32.reduceAdd, Int32.reduceMul, Int32.reduceSub, Int32.reduceToNatClampNeg, and_self, or_self, and_false, false_and, not_true_eq_false, not_false_eq_true, K1 S, R1_0 S, R1_5 S, K2 S, c_taleAt S a1 a0 hj, t1, u1, kcls, c_tell5 S TT t2, e100]
      · have S1 : St (trc (trc (trc (trc h 3) 2) 1) 1) := S
        have b2 : zi (trc (trc (trc (trc h 3) 2) 1) 1) 37 2 = nI n := by rw [zi_trc (by decide), zi_trc (by decide), zi_trc (by decide), zi_trc (by decide)]; exact a2
        have b4 : zi (trc (trc (trc (trc h 3) 2) 1) 1) 38 j = nI 2 := by rw [zi_trc (by decide), zi_trc (by decide), zi_trc (by decide), zi_trc (by decide)]; exact t4
        have b5 : zi (trm (trm (trm (trm (trc (trc (trc (trc h 3) 2) 1) 1) 3) 2) 1) 1) 41 j = zi h 41 j := by rw [zi_trm (by decide), zi_trm (by decide), zi_trm (by decide), zi_trm (by decide), zi_trc (by decide), zi_trc (by decide), zi_trc (by decide), zi_trc (by decide)]
        rw [e_X11_tell]
        simp +decide only [u_X11_tell_0, u_X11_tell_1, u_X11_tell_2, u_X11_tell_5, u_X11_tell_8, u_X11_tell_9, u_X11_tell_10, u_X11_tell_11, u_X11_tell_14, u_X11_tell_15, u_X11_tell_16, u_X11_tell_17, u_X11_tell_18, u_X11_tell_19, u_X11_tell_22, u_X11_tell_23, u_X11_tell_24, u_X11_tell_27, u_X11_tell_28, u_X11_tell_31, u_X11_tell_32, u_X11_tell_33, u_X11_tell_36, u_X11_tell_37, u_X11_tell_38, u_X11_tell_41, u_X11_tell_42, u_X11_tell_43, u_X11_tell_46, u_X11_tell_47, u_X11_tell_48, u_X11_tell_51, u_X11_tell_52, u_X11_tell_55, u_X11_tell_56, u_X11_tell_57, u_X11_tell_58, u_X11_tell_59, u_X11_tell_62, u_X11_tell_63, u_X11_tell_66, u_X11_tell_67, u_X11_tell_68, u_X11_tell_71, u_X11_tell_72, u_X11_tell_74, u_X11_tell_75, u_X11_tell_78, u_X11_tell_79, u_X11_tell_80, u_X11_tell_81, u_X11_tell_83, u_X11_tell_84, zcl_i, zcl_r, zcl_l, zcl_0, Option.bind_some, Option.bind_none, Option.toList_some, Option.toList_none, List.cons_append, List.nil_append, zk_wI, zk_wR, zk_wC, zr_wI, zr_wC, zi_wR, zn_wI, zn_wR, zn_wC, if_true, if_false, true_or, or_true, or_false, false_or, true_and, and_true, ↓reduceIte, reduceCtorEq, Nat.reduceEqDiff, Nat.reduceLT, Nat.reduceLeDiff, Nat.reduceAdd, Nat.reduceSub, Nat.reduceMul, Int32.reduceLT, Int32.reduceLE, Int32.reduceAdd, Int32.reduceMul, Int32.reduceSub, Int32.reduceToNatClampNeg, and_self, or_self, and_false, false_and, not_true_eq_false, not_false_eq_true, zk_trm, zr_trm, K37 S1, c_noTale S1 b2 a0, hr, R37_3 S1, R37_6 S1, K38 S1, K41 S1, zix_nI hj8 (by decide), b4, b5, c_tracedm S1, c_tracedm (show St (trm (trc (trc (trc (trc h 3) 2) 1) 1) 3) from S), c_tracedm (show St (trm (trm (trc (trc (trc (trc h 3) 2) 1) 1) 3) 2) from S), c_tracedm (show St (trm (trm (trm (trc (trc (trc (trc h 3) 2) 1) 1) 3) 2) 1) from S)]
      · have := Inv_tr (Inv_tr (Inv_tr (Inv_tr I0 (n := 3)) (n := 2)) (n := 1)) (n := 1)
        simp only [tr_comm] at this ⊢
        exact this
