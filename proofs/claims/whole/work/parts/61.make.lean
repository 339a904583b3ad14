/-! the constructors -/
def zNk (k : Nat) (h : zH) (t n N : Nat) : zH := (k + 1, h.2.1 + N, fun x => if x = k then (t, n) else h.2.2.1 x, fun x y => if x = k then 0 else h.2.2.2.1 x y, fun x y => if x = k then none else h.2.2.2.2 x y)
theorem zN_k {h : zH} {t n N : Nat} : zN h t n N = zNk (zn h) h t n N := rfl
theorem zn_Nk {k : Nat} {h : zH} {t n N : Nat} : zn (zNk k h t n N) = k + 1 := rfl
theorem zk_Nk {k : Nat} {h : zH} {t n N x : Nat} : zk (zNk k h t n N) x = if x = k then (t, n) else zk h x := rfl
theorem zi_Nk {k : Nat} {h : zH} {t n N x y : Nat} : zi (zNk k h t n N) x y = if x = k then 0 else zi h x y := rfl
theorem zr_Nk {k : Nat} {h : zH} {t n N x y : Nat} : zr (zNk k h t n N) x y = if x = k then none else zr h x y := rfl
theorem zNk_w0 {k : Nat} {h : zH} {t n N j : Nat} : zwI (zNk k h t n N) k j 0 = zNk k h t n N := zwI_same (by rw [zi_Nk, if_pos rfl])
def b1 (H : zH) : zH := zwR (zNk 3 (zNk 2 H 1 0 3) 13 8 8) 2 2 (some 3)
def b2 (H : zH) : zH := zwR (zNk 7 (zwR (zNk 6 (zwR (zNk 5 (zNk 4 H 6 0 4) 12 8 8) 4 1 (some 5)) 12 8 8) 4 2 (some 6)) 12 8 8) 4 3 (some 7)
def nP (arr i k : Nat) (H : zH) : zH := zwR (zNk k H 4 0 8) arr i (some k)
def n6 (H : zH) : zH := nP 15 5 21 (nP 15 4 20 (nP 15 3 19 (nP 15 2 18 (nP 15 1 17 (nP 15 0 16 (zNk 15 H 14 6 6))))))
def n5 (H : zH) : zH := nP 23 4 28 (nP 23 3 27 (nP 23 2 26 (nP 23 1 25 (nP 23 0 24 (zNk 23 H 14 5 5)))))
def b3 (H : zH) : zH := zwI (zwR (n6 (zwR (zNk 14 (zwR (zNk 13 (zwI (zNk 12 H 3 0 5) 12 0 (-9)) 12 5 5) 12 1 (some 13)) 12 5 5) 12 2 (some 14))) 12 3 (some 15)) 12 4 0
def b4 (H : zH) : zH := zwI (zwR (n5 (zNk 22 H 2 0 2)) 22 0 (some 23)) 22 1 0
def sI (i k k' : Nat) (H : zH) : zH := zwR (zwR (zNk k' (zwI (zwI (zNk k H 7 0 3) k 0 (-9)) k 1 0) 12 60 60) k 2 (some k')) 8 i (some k)
def B10 (H : zH) : zH := sI 3 35 36 (sI 2 33 34 (sI 1 31 32 (sI 0 29 30 (zwR (b4 (zwR (b3 (zwR (zNk 11 (zwI (zwR (zNk 10 (zwI (zwR (zNk 9 (zwR (zNk 8 (zwR (b2 (zwI (zwI (zwR (b1 (zNk 1 H 10 0 12)) 1 0 (some 2)) 1 1 0) 1 2 0)) 1 3 (some 4)) 15 4 4) 1 4 (some 8)) 9 0 1) 1 5 (some 9)) 1 6 0) 12 20 20) 1 7 (some 10)) 1 8 0) 4 0 8) 1 9 (some 11))) 1 10 (some 12))) 1 11 (some 22)))))
def B11 (H : zH) : zH := zwI (zwI (zwI (zwI (zwR (zNk 63 (zwR (zNk 62 (zwR (zNk 61 (zwR (zNk 60 (zwR (zNk 59 (zwR (zNk 58 (zwR (zNk 57 (zwR (zNk 56 (zwR (zNk 55 (zwR (zNk 54 (zwR (zNk 53 (zwR (zNk 52 (zwR (zNk 51 (zwR (zNk 50 (zwR (zNk 49 (zwR (zNk 48 (zwR (zNk 47 (zwR (zNk 46 (zwR (zNk 45 (zwR (zNk 44 (zwR (zNk 43 (zwR (zNk 42 (zwR (zNk 41 (zwR (zNk 40 (zwR (zNk 39 (zwR (zNk 38 (zNk 37 H 11 0 43) 12 8 8) 37 3 (some 38)) 12 8 8) 37 4 (some 39)) 12 8 8) 37 5 (some 40)) 12 8 8) 37 6 (some 41)) 12 8 8) 37 7 (some 42)) 12 8 8) 37 13 (some 43)) 12 8 8) 37 14 (some 44)) 12 8 8) 37 15 (some 45)) 12 8 8) 37 16 (some 46)) 12 8 8) 37 17 (some 47)) 12 5 5) 37 24 (some 48)) 12 5 5) 37 25 (some 49)) 12 6 6) 37 27 (some 50)) 12 6 6) 37 28 (some 51)) 12 6 6) 37 29 (some 52)) 12 6 6) 37 30 (some 53)) 12 6 6) 37 31 (some 54)) 12 6 6) 37 32 (some 55)) 12 6 6) 37 33 (some 56)) 12 8 8) 37 35 (some 57)) 12 8 8) 37 36 (some 58)) 12 8 8) 37 37 (some 59)) 12 4 4) 37 38 (some 60)) 12 4 4) 37 39 (some 61)) 12 240 240) 37 40 (some 62)) 12 60 60) 37 41 (some 63)) 60 0 (-1)) 60 1 (-1)) 60 2 (-1)) 60 3 (-1)
theorem c_i1 {d : Nat} {H : zH} : zcall (zP zM) (d + 1) 5 [.inr (.inr (some 2))] (zNk 2 H 1 0 3) = some (none, b1 H) := by
  have t8 : (8 : Int32).toNatClampNeg = 8 := by decide
  rw [e_X1_init]
  simp +decide only [u_X1_init_0, u_X1_init_1, u_X1_init_4, u_X1_init_5, u_X1_init_6, u_X1_init_9, u_X1_init_10, u_X1_init_11, u_X1_init_14, u_X1_init_15, u_X1_init_17, u_X1_init_20, u_X1_init_23, zcl_i, zcl_r, zcl_l, zcl_0, Option.bind_some, Option.bind_none, Option.toList_some, Option.toList_none, List.cons_append, List.nil_append, zk_wI, zk_wR, zk_wC, zr_wI, zr_wC, zi_wR, zn_wI, zn_wR, zn_wC, if_true, if_false, true_or, or_true, or_false, false_or, true_and, and_true, ↓reduceIte, reduceCtorEq, Nat.reduceEqDiff, Nat.reduceLT, Nat.reduceLeDiff, Nat.reduceAdd, Nat.reduceSub, Nat.reduceMul, Int32.reduceLT, Int32.reduceLE, Int32.reduceAdd, Int32.reduceMul, Int32.reduceSub, Int32.reduceToNatClampNeg, and_self, or_self, and_false, false_and, not_true_eq_false, not_false_eq_true, zk_Nk, zNk_w0, zN_k, zn_Nk, t8]
  rfl
theorem c_i6 {d : Nat} {H : zH} : zcall (zP zM) (d + 1) 30 [.inr (.inr (some 4))] (zNk 4 H 6 0 4) = some (none, b2 H) := by
  have t8 : (8 : Int32).toNatClampNeg = 8 := by decide
  rw [e_X6_init]
  simp +decide only [u_X6_init_0, u_X6_init_1, u_X6_init_4, u_X6_init_5, u_X6_init_6, u_X6_init_9, u_X6_init_10, u_X6_init_12, u_X6_init_14, u_X6_init_17, u_X6_init_18, u_X6_init_20, u_X6_init_22, u_X6_init_25, u_X6_init_26, u_X6_init_28, u_X6_init_30, u_X6_init_33, zcl_i, zcl_r, zcl_l, zcl_0, Option.bind_some, Option.bind_none, Option.toList_some, Option.toList_none, List.cons_append, List.nil_append, zk_wI, zk_wR, zk_wC, zr_wI, zr_wC, zi_wR, zn_wI, zn_wR, zn_wC, if_true, if_false, true_or, or_true, or_false, false_or, true_and, and_true, ↓reduceIte, reduceCtorEq, Nat.reduceEqDiff, Nat.reduceLT, Nat.reduceLeDiff, Nat.reduceAdd, Nat.reduceSub, Nat.reduceMul, Int32.reduceLT, Int32.reduceLE, Int32.reduceAdd, Int32.reduceMul, Int32.reduceSub, Int32.reduceToNatClampNeg, and_self, or_self, and_false, false_and, not_true_eq_false, not_false_eq_true, zk_Nk, zNk_w0, zN_k, zn_Nk, t8]
  rfl
theorem c_i9 {d : Nat} {H : zH} : zcall (zP zM) (d + 1) 50 [.inr (.inr (some 9))] (zNk 9 H 9 0 1) = some (none, zNk 9 H 9 0 1) := by
  rw [e_X9_init]
  simp +decide only [u_X9_init_0, u_X9_init_1, u_X9_init_4, u_X9_init_5, u_X9_init_6, u_X9_init_9, zcl_i, zcl_r, zcl_l, zcl_0, Option.bind_some, Option.bind_none, Option.toList_some, Option.toList_none, List.cons_append, List.nil_append, zk_wI, zk_wR, zk_wC, zr_wI, zr_wC, zi_wR, zn_wI, zn_wR, zn_wC, if_true, if_false, true_or, or_true, or_false, false_or, true_and, and_true, ↓reduceIte, reduceCtorEq, Nat.reduceEqDiff, Nat.reduceLT, Nat.reduceLeDiff, Nat.reduceAdd, Nat.reduceSub, Nat.reduceMul, Int32.reduceLT, Int32.reduceLE, Int32.reduceAdd, Int32.reduceMul, Int32.reduceSub, Int32.reduceToNatClampNeg, and_self, or_self, and_false, false_and, not_true_eq_false, not_false_eq_true, zk_Nk, zNk_w0]
theorem c_i4 {d : Nat} {H : zH} {k : Nat} : zcall (zP zM) (d + 1) 19 [.inr (.inr (some k))] (zNk k H 4 0 8) = some (none, zNk k H 4 0 8) := by
  have z : zk (zNk k H 4 0 8) k = (4, 0) := by rw [zk_Nk, if_pos rfl]
  rw [e_X4_init]
  simp +decide only [u_X4_init_0, u_X4_init_1, u_X4_init_4, u_X4_init_5, u_X4_init_6, u_X4_init_9, u_X4_init_10, u_X4_init_11, u_X4_init_14, u_X4_init_15, u_X4_init_16, u_X4_init_19, u_X4_init_20, u_X4_init_21, u_X4_init_24, u_X4_init_25, u_X4_init_26, u_X4_init_29, u_X4_init_30, u_X4_init_31, u_X4_init_34, u_X4_init_35, u_X4_init_36, u_X4_init_39, u_X4_init_40, u_X4_init_41, u_X4_init_44, zcl_i, zcl_r, zcl_l, zcl_0, Option.bind_some, Option.bind_none, Option.toList_some, Option.toList_none, List.cons_append, List.nil_append, zk_wI, zk_wR, zk_wC, zr_wI, zr_wC, zi_wR, zn_wI, zn_wR, zn_wC, if_true, if_false, true_or, or_true, or_false, false_or, true_and, and_true, ↓reduceIte, reduceCtorEq, Nat.reduceEqDiff, Nat.reduceLT, Nat.reduceLeDiff, Nat.reduceAdd, Nat.reduceSub, Nat.reduceMul, Int32.reduceLT, Int32.reduceLE, Int32.reduceAdd, Int32.reduceMul, Int32.reduceSub, Int32.reduceToNatClampNeg, and_self, or_self, and_false, false_and, not_true_eq_false, not_false_eq_true, z, zNk_w0]
theorem c_nn6 {d : Nat} {H : zH} (hz : zn H = 15) : zcall (zP zM) (d + 2) 85 [.inl 6] H = some (some (.inr (.inr (some 15))), n6 H) := by
  have t6 : (6 : Int32).toNatClampNeg = 6 := by decide
  have x0 : zix 0 6 = some 0 := by decide
  have x1 : zix 1 6 = some 1 := by decide
  have x2 : zix 2 6 = some 2 := by decide
  have x3 : zix 3 6 = some 3 := by decide
  have x4 : zix 4 6 = some 4 := by decide
  have x5 : zix 5 6 = some 5 := by decide
  rw [e_X10_newNights]
  simp +decide only [u_X10_newNights_0, u_X10_newNights_1, u_X10_newNights_2, u_X10_newNights_5, u_X10_newNights_8, u_X10_newNights_9, u_X10_newNights_10, u_X10_newNights_11, u_X10_newNights_12, u_X10_newNights_13, u_X10_newNights_16, u_X10_newNights_17, u_X10_newNights_18, u_X10_newNights_21, u_X10_newNights_21i, u_X10_newNights_22, u_X10_newNights_25, u_X10_newNights_26, u_X10_newNights_29, u_X10_newNights_32, u_X10_newNights_33, zcl_i, zcl_r, zcl_l, zcl_0, Option.bind_some, Option.bind_none, Option.toList_some, Option.toList_none, List.cons_append, List.nil_append, zk_wI, zk_wR, zk_wC, zr_wI, zr_wC, zi_wR, zn_wI, zn_wR, zn_wC, if_true, if_false, true_or, or_true, or_false, false_or, true_and, and_true, ↓reduceIte, reduceCtorEq, Nat.reduceEqDiff, Nat.reduceLT, Nat.reduceLeDiff, Nat.reduceAdd, Nat.reduceSub, Nat.reduceMul, Int32.reduceLT, Int32.reduceLE, Int32.reduceAdd, Int32.reduceMul, Int32.reduceSub, Int32.reduceToNatClampNeg, and_self, or_self, and_false, false_and, not_true_eq_false, not_false_eq_true, hz, zk_Nk, zN_k, zn_Nk, t6, c_i4, x0, x1, x2, x3, x4, x5]
  rfl
theorem c_nn5 {d : Nat} {H : zH} (hz : zn H = 23) : zcall (zP zM) (d + 2) 85 [.inl 5] H = some (some (.inr (.inr (some 23))), n5 H) := by
  have t6 : (5 : Int32).toNatClampNeg = 5 := by decide
  have x0 : zix 0 5 = some 0 := by decide
  have x1 : zix 1 5 = some 1 := by decide
  have x2 : zix 2 5 = some 2 := by decide
  have x3 : zix 3 5 = some 3 := by decide
  have x4 : zix 4 5 = some 4 := by decide
  rw [e_X10_newNights]
  simp +decide only [u_X10_newNights_0, u_X10_newNights_1, u_X10_newNights_2, u_X10_newNights_5, u_X10_newNights_8, u_X10_newNights_9, u_X10_newNights_10, u_X10_newNights_11, u_X10_newNights_12, u_X10_newNights_13, u_X10_newNights_16, u_X10_newNights_17, u_X10_newNights_18, u_X10_newNights_21, u_X10_newNights_21i, u_X10_newNights_22, u_X10_newNights_25, u_X10_newNights_26, u_X10_newNights_29, u_X10_newNights_32, u_X10_newNights_33, zcl_i, zcl_r, zcl_l, zcl_0, Option.bind_some, Option.bind_none, Option.toList_some, Option.toList_none, List.cons_append, List.nil_append, zk_wI, zk_wR, zk_wC, zr_wI, zr_wC, zi_wR, zn_wI, zn_wR, zn_wC, if_true, if_false, true_or, or_true, or_false, false_or, true_and, and_true, ↓reduceIte, reduceCtorEq, Nat.reduceEqDiff, Nat.reduceLT, Nat.reduceLeDiff, Nat.reduceAdd, Nat.reduceSub, Nat.reduceMul, Int32.reduceLT, Int32.reduceLE, Int32.reduceAdd, Int32.reduceMul, Int32.reduceSub, Int32.reduceToNatClampNeg, and_self, or_self, and_false, false_and, not_true_eq_false, not_false_eq_true, hz, zk_Nk, zN_k, zn_Nk, t6, c_i4, x0, x1, x2, x3, x4]
  rfl
theorem c_i3 {d : Nat} {H : zH} : zcall (zP zM) (d + 3) 15 [.inr (.inr (some 12))] (zNk 12 H 3 0 5) = some (none, b3 H) := by
  have t5 : (5 : Int32).toNatClampNeg = 5 := by decide
  have kn : zk (n6 (zwR (zNk 14 (zwR (zNk 13 (zwI (zNk 12 H 3 0 5) 12 0 (-9)) 12 5 5) 12 1 (some 13)) 12 5 5) 12 2 (some 14))) 12 = (3, 0) := rfl
  have nn := fun d => c_nn6 (d := d) (H := zwR (zNk 14 (zwR (zNk 13 (zwI (zNk 12 H 3 0 5) 12 0 (-9)) 12 5 5) 12 1 (some 13)) 12 5 5) 12 2 (some 14)) rfl
  rw [e_X3_init]
  simp +decide only [u_X3_init_0, u_X3_init_1, u_X3_init_4, u_X3_init_5, u_X3_init_7, u_X3_init_10, u_X3_init_11, u_X3_init_12, u_X3_init_14, u_X3_init_17, u_X3_init_18, u_X3_init_19, u_X3_init_21, u_X3_init_24, u_X3_init_25, u_X3_init_27, u_X3_init_30, u_X3_init_33, u_X3_init_34, u_X3_init_35, u_X3_init_38, zcl_i, zcl_r, zcl_l, zcl_0, Option.bind_some, Option.bind_none, Option.toList_some, Option.toList_none, List.cons_append, List.nil_append, zk_wI, zk_wR, zk_wC, zr_wI, zr_wC, zi_wR, zn_wI, zn_wR, zn_wC, if_true, if_false, true_or, or_true, or_false, false_or, true_and, and_true, ↓reduceIte, reduceCtorEq, Nat.reduceEqDiff, Nat.reduceLT, Nat.reduceLeDiff, Nat.reduceAdd, Nat.reduceSub, Nat.reduceMul, Int32.reduceLT, Int32.reduceLE, Int32.reduceAdd, Int32.reduceMul, Int32.reduceSub, Int32.reduceToNatClampNeg, and_self, or_self, and_false, false_and, not_true_eq_false, not_false_eq_true, zk_Nk, zN_k, zn_Nk, t5, nn, kn]
  rfl
theorem c_i2 {d : Nat} {H : zH} : zcall (zP zM) (d + 3) 11 [.inr (.inr (some 22))] (zNk 22 H 2 0 2) = some (none, b4 H) := by
  have kn : zk (n5 (zNk 22 H 2 0 2)) 22 = (2, 0) := rfl
  have nn := fun d => c_nn5 (d := d) (H := zNk 22 H 2 0 2) rfl
  rw [e_X2_init]
  simp +decide only [u_X2_init_0, u_X2_init_1, u_X2_init_4, u_X2_init_5, u_X2_init_6, u_X2_init_9, u_X2_init_12, u_X2_init_13, u_X2_init_14, u_X2_init_17, zcl_i, zcl_r, zcl_l, zcl_0, Option.bind_some, Option.bind_none, Option.toList_some, Option.toList_none, List.cons_append, List.nil_append, zk_wI, zk_wR, zk_wC, zr_wI, zr_wC, zi_wR, zn_wI, zn_wR, zn_wC, if_true, if_false, true_or, or_true, or_false, false_or, true_and, and_true, ↓reduceIte, reduceCtorEq, Nat.reduceEqDiff, Nat.reduceLT, Nat.reduceLeDiff, Nat.reduceAdd, Nat.reduceSub, Nat.reduceMul, Int32.reduceLT, Int32.reduceLE, Int32.reduceAdd, Int32.reduceMul, Int32.reduceSub, Int32.reduceToNatClampNeg, and_self, or_self, and_false, false_and, not_true_eq_false, not_false_eq_true, zk_Nk, nn, kn]
  rfl
def sS (k k' : Nat) (H : zH) : zH := zwR (zNk k' (zwI (zwI (zNk k H 7 0 3) k 0 (-9)) k 1 0) 12 60 60) k 2 (some k')
theorem c_i7_29 {d : Nat} {H : zH} : zcall (zP zM) (d + 1) 32 [.inr (.inr (some 29))] (zNk 29 H 7 0 3) = some (none, sS 29 30 H) := by
  have t5 : (60 : Int32).toNatClampNeg = 60 := by decide
  rw [e_X7_init]
  simp +decide only [u_X7_init_0, u_X7_init_1, u_X7_init_4, u_X7_init_5, u_X7_init_7, u_X7_init_10, u_X7_init_11, u_X7_init_12, u_X7_init_15, u_X7_init_16, u_X7_init_18, u_X7_init_20, u_X7_init_23, zcl_i, zcl_r, zcl_l, zcl_0, Option.bind_some, Option.bind_none, Option.toList_some, Option.toList_none, List.cons_append, List.nil_append, zk_wI, zk_wR, zk_wC, zr_wI, zr_wC, zi_wR, zn_wI, zn_wR, zn_wC, if_true, if_false, true_or, or_true, or_false, false_or, true_and, and_true, ↓reduceIte, reduceCtorEq, Nat.reduceEqDiff, Nat.reduceLT, Nat.reduceLeDiff, Nat.reduceAdd, Nat.reduceSub, Nat.reduceMul, Int32.reduceLT, Int32.reduceLE, Int32.reduceAdd, Int32.reduceMul, Int32.reduceSub, Int32.reduceToNatClampNeg, and_self, or_self, and_false, false_and, not_true_eq_false, not_false_eq_true, zk_Nk, zN_k, zn_Nk, t5]
  rfl
theorem c_i7_31 {d : Nat} {H : zH} : zcall (zP zM) (d + 1) 32 [.inr (.inr (some 31))] (zNk 31 H 7 0 3) = some (none, sS 31 32 H) := by
  have t5 : (60 : Int32).toNatClampNeg = 60 := by decide
  rw [e_X7_init]
  simp +decide only [u_X7_init_0, u_X7_init_1, u_X7_init_4, u_X7_init_5, u_X7_init_7, u_X7_init_10, u_X7_init_11, u_X7_init_12, u_X7_init_15, u_X7_init_16, u_X7_init_18, u_X7_init_20, u_X7_init_23, zcl_i, zcl_r, zcl_l, zcl_0, Option.bind_some, Option.bind_none, Option.toList_some, Option.toList_none, List.cons_append, List.nil_append, zk_wI, zk_wR, zk_wC, zr_wI, zr_wC, zi_wR, zn_wI, zn_wR, zn_wC, if_true, if_false, true_or, or_true, or_false, false_or, true_and, and_true, ↓reduceIte, reduceCtorEq, Nat.reduceEqDiff, Nat.reduceLT, Nat.reduceLeDiff, Nat.reduceAdd, Nat.reduceSub, Nat.reduceMul, Int32.reduceLT, Int32.reduceLE, Int32.reduceAdd, Int32.reduceMul, Int32.reduceSub, Int32.reduceToNatClampNeg, and_self, or_self, and_false, false_and, not_true_eq_false, not_false_eq_true, zk_Nk, zN_k, zn_Nk, t5]
  rfl
theorem c_i7_33 {d : Nat} {H : zH} : zcall (zP zM) (d + 1) 32 [.inr (.inr (some 33))] (zNk 33 H 7 0 3) = some (none, sS 33 34 H) := by
  have t5 : (60 : Int32).toNatClampNeg = 60 := by decide
  rw [e_X7_init]
  simp +decide only [u_X7_init_0, u_X7_init_1, u_X7_init_4, u_X7_init_5, u_X7_init_7, u_X7_init_10, u_X7_init_11, u_X7_init_12, u_X7_init_15, u_X7_init_16, u_X7_init_18, u_X7_init_20, u_X7_init_23, zcl_i, zcl_r, zcl_l, zcl_0, Option.bind_some, Option.bind_none, Option.toList_some, Option.toList_none, List.cons_append, List.nil_append, zk_wI, zk_wR, zk_wC, zr_wI, zr_wC, zi_wR, zn_wI, zn_wR, zn_wC, if_true, if_false, true_or, or_true, or_false, false_or, true_and, and_true, ↓reduceIte, reduceCtorEq, Nat.reduceEqDiff, Nat.reduceLT, Nat.reduceLeDiff, Nat.reduceAdd, Nat.reduceSub, Nat.reduceMul, Int32.reduceLT, Int32.reduceLE, Int32.reduceAdd, Int32.reduceMul, Int32.reduceSub, Int32.reduceToNatClampNeg, and_self, or_self, and_false, false_and, not_true_eq_false, not_false_eq_true, zk_Nk, zN_k, zn_Nk, t5]
  rfl
theorem c_i7_35 {d : Nat} {H : zH} : zcall (zP zM) (d + 1) 32 [.inr (.inr (some 35))] (zNk 35 H 7 0 3) = some (none, sS 35 36 H) := by
  have t5 : (60 : Int32).toNatClampNeg = 60 := by decide
  rw [e_X7_init]
  simp +decide only [u_X7_init_0, u_X7_init_1, u_X7_init_4, u_X7_init_5, u_X7_init_7, u_X7_init_10, u_X7_init_11, u_X7_init_12, u_X7_init_15, u_X7_init_16, u_X7_init_18, u_X7_init_20, u_X7_init_23, zcl_i, zcl_r, zcl_l, zcl_0, Option.bind_some, Option.bind_none, Option.toList_some, Option.toList_none, List.cons_append, List.nil_append, zk_wI, zk_wR, zk_wC, zr_wI, zr_wC, zi_wR, zn_wI, zn_wR, zn_wC, if_true, if_false, true_or, or_true, or_false, false_or, true_and, and_true, ↓reduceIte, reduceCtorEq, Nat.reduceEqDiff, Nat.reduceLT, Nat.reduceLeDiff, Nat.reduceAdd, Nat.reduceSub, Nat.reduceMul, Int32.reduceLT, Int32.reduceLE, Int32.reduceAdd, Int32.reduceMul, Int32.reduceSub, Int32.reduceToNatClampNeg, and_self, or_self, and_false, false_and, not_true_eq_false, not_false_eq_true, zk_Nk, zN_k, zn_Nk, t5]
  rfl
