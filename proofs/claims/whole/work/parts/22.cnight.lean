/-! the class's tales and its night -/
theorem c_has {d : Nat} {h : zH} {s k : Int32} : zcall (zP zM) (d + 1) 83 [.inl s, .inl k] h = some (some (.inl (if zbit s k = true then 1 else 0)), h) := by
  rw [e_X10_has]
  simp +decide only [u_X10_has_0, u_X10_has_1, u_X10_has_2, u_X10_has_3, u_X10_has_4, u_X10_has_5, u_X10_has_8, u_X10_has_9, u_X10_has_12, u_X10_has_13, zcl_i, zcl_r, zcl_l, zcl_0, Option.bind_some, Option.bind_none, Option.toList_some, Option.toList_none, List.cons_append, List.nil_append, zk_wI, zk_wR, zk_wC, zr_wI, zr_wC, zi_wR, zn_wI, zn_wR, zn_wC, if_true, if_false, true_or, or_true, or_false, false_or, true_and, and_true, ↓reduceIte, reduceCtorEq, Nat.reduceEqDiff, Nat.reduceLT, Nat.reduceLeDiff, Nat.reduceAdd, Nat.reduceSub, Nat.reduceMul, Int32.reduceLT, Int32.reduceLE, Int32.reduceAdd, Int32.reduceMul, Int32.reduceSub, Int32.reduceToNatClampNeg, and_self, or_self, and_false, false_and, not_true_eq_false, not_false_eq_true, zbit_0]
  cases zbit s k <;> rfl
theorem c_isWithin {d : Nat} {h : zH} {x l u : Int32} : zcall (zP zM) (d + 1) 82 [.inl x, .inl l, .inl u] h = some (some (.inl (if l ≤ x ∧ x ≤ u then 1 else 0)), h) := by
  rw [e_X10_isWithin]
  simp +decide only [u_X10_isWithin_0, u_X10_isWithin_1, u_X10_isWithin_2, u_X10_isWithin_5, u_X10_isWithin_6, u_X10_isWithin_7, u_X10_isWithin_10, u_X10_isWithin_11, u_X10_isWithin_14, u_X10_isWithin_15, zcl_i, zcl_r, zcl_l, zcl_0, Option.bind_some, Option.bind_none, Option.toList_some, Option.toList_none, List.cons_append, List.nil_append, zk_wI, zk_wR, zk_wC, zr_wI, zr_wC, zi_wR, zn_wI, zn_wR, zn_wC, if_true, if_false, true_or, or_true, or_false, false_or, true_and, and_true, ↓reduceIte, reduceCtorEq, Nat.reduceEqDiff, Nat.reduceLT, Nat.reduceLeDiff, Nat.reduceAdd, Nat.reduceSub, Nat.reduceMul, Int32.reduceLT, Int32.reduceLE, Int32.reduceAdd, Int32.reduceMul, Int32.reduceSub, Int32.reduceToNatClampNeg, and_self, or_self, and_false, false_and, not_true_eq_false, not_false_eq_true, ← Int32.not_lt]
  by_cases h1 : x < l <;> by_cases h2 : u < x <;> simp [h1, h2]
def kcls (k : Nat) : Nat := match k with
  | 0 => 8
  | 1 => 0
  | _ => 5
/-- cell q is a tale of kind k with these numbers -/
def isT (h : zH) (q k : Nat) (num na nb te lo : Int32) : Prop := zk h q = (kcls k, 0) ∧ k ≤ 2 ∧ zi h q 0 = num ∧ zi h q 1 = na ∧ zi h q 2 = nb ∧ zi h q 3 = te ∧ zi h q 4 = lo
theorem c_eitherNeed {d : Nat} {h : zH} {q k : Nat} {num na nb te lo : Int32} (T : isT h q k num na nb te lo) {s : Int32} : zcall (zP zM) (d + 2) 45 [.inr (.inr (some q)), .inl s] h = some (some (.inl (if (zbit s na || zbit s nb) = true then 1 else 0)), h) := by
  obtain ⟨h1, h2, -, h3, h4, -⟩ := T
  rw [e_X8_hasEitherNeed]
  rcases (show k = 0 ∨ k = 1 ∨ k = 2 by omega) with rfl | rfl | rfl <;>
  · simp +decide only [u_X8_hasEitherNeed_0, u_X8_hasEitherNeed_1, u_X8_hasEitherNeed_2, u_X8_hasEitherNeed_5, u_X8_hasEitherNeed_8, u_X8_hasEitherNeed_11, u_X8_hasEitherNeed_12, u_X8_hasEitherNeed_13, u_X8_hasEitherNeed_16, u_X8_hasEitherNeed_19, u_X8_hasEitherNeed_22, u_X8_hasEitherNeed_23, u_X8_hasEitherNeed_26, u_X8_hasEitherNeed_27, zcl_i, zcl_r, zcl_l, zcl_0, Option.bind_some, Option.bind_none, Option.toList_some, Option.toList_none, List.cons_append, List.nil_append, zk_wI, zk_wR, zk_wC, zr_wI, zr_wC, zi_wR, zn_wI, zn_wR, zn_wC, if_true, if_false, true_or, or_true, or_false, false_or, true_and, and_true, ↓reduceIte, reduceCtorEq, Nat.reduceEqDiff, Nat.reduceLT, Nat.reduceLeDiff, Nat.reduceAdd, Nat.reduceSub, Nat.reduceMul, Int32.reduceLT, Int32.reduceLE, Int32.reduceAdd, Int32.reduceMul, Int32.reduceSub, Int32.reduceToNatClampNeg, and_self, or_self, and_false, false_and, not_true_eq_false, not_false_eq_true, h1, kcls, h3, h4, c_has]
    by_cases z1 : zbit s na = true <;> by_cases z2 : zbit s nb = true <;> simp +decide [z1, z2]
theorem c_ans0 {d : Nat} {h : zH} {q : Nat} {num na nb te lo : Int32} (T : isT h q 0 num na nb te lo) {s hd : Int32} : zcall (zP zM) (d + 3) 44 [.inr (.inr (some q)), .inl s, .inl hd] h = some (some (.inl (if zans (nI 0) na nb num s hd = true then 1 else 0)), h) := by
  have T0 := T
  obtain ⟨h1, h2, -, h3, h4, -⟩ := T
  rw [e_X8_isAnswered]
  simp +decide only [u_X8_isAnswered_0, u_X8_isAnswered_1, u_X8_isAnswered_2, u_X8_isAnswered_5, zcl_i, zcl_r, zcl_l, zcl_0, Option.bind_some, Option.bind_none, Option.toList_some, Option.toList_none, List.cons_append, List.nil_append, zk_wI, zk_wR, zk_wC, zr_wI, zr_wC, zi_wR, zn_wI, zn_wR, zn_wC, if_true, if_false, true_or, or_true, or_false, false_or, true_and, and_true, ↓reduceIte, reduceCtorEq, Nat.reduceEqDiff, Nat.reduceLT, Nat.reduceLeDiff, Nat.reduceAdd, Nat.reduceSub, Nat.reduceMul, Int32.reduceLT, Int32.reduceLE, Int32.reduceAdd, Int32.reduceMul, Int32.reduceSub, Int32.reduceToNatClampNeg, and_self, or_self, and_false, false_and, not_true_eq_false, not_false_eq_true, h1, kcls, c_eitherNeed T0, zans]
  by_cases z1 : zbit s na = true <;> by_cases z2 : zbit s nb = true <;> simp +decide [z1, z2]
theorem c_ans1 {d : Nat} {h : zH} {q k : Nat} {num na nb te lo : Int32} (T : isT h q k num na nb te lo) {s hd : Int32} (hk : 1 ≤ k) : zcall (zP zM) (d + 2) 2 [.inr (.inr (some q)), .inl s, .inl hd] h = some (some (.inl (if (zbit s na && zbit s nb) = true then 1 else 0)), h) := by
  obtain ⟨h1, h2, -, h3, h4, -⟩ := T
  rw [e_X0_isAnswered]
  rcases (show k = 1 ∨ k = 2 by omega) with rfl | rfl <;>
  · simp +decide only [u_X0_isAnswered_0, u_X0_isAnswered_1, u_X0_isAnswered_2, u_X0_isAnswered_5, u_X0_isAnswered_8, u_X0_isAnswered_11, u_X0_isAnswered_12, u_X0_isAnswered_13, u_X0_isAnswered_16, u_X0_isAnswered_19, u_X0_isAnswered_22, u_X0_isAnswered_23, u_X0_isAnswered_26, u_X0_isAnswered_27, zcl_i, zcl_r, zcl_l, zcl_0, Option.bind_some, Option.bind_none, Option.toList_some, Option.toList_none, List.cons_append, List.nil_append, zk_wI, zk_wR, zk_wC, zr_wI, zr_wC, zi_wR, zn_wI, zn_wR, zn_wC, if_true, if_false, true_or, or_true, or_false, false_or, true_and, and_true, ↓reduceIte, reduceCtorEq, Nat.reduceEqDiff, Nat.reduceLT, Nat.reduceLeDiff, Nat.reduceAdd, Nat.reduceSub, Nat.reduceMul, Int32.reduceLT, Int32.reduceLE, Int32.reduceAdd, Int32.reduceMul, Int32.reduceSub, Int32.reduceToNatClampNeg, and_self, or_self, and_false, false_and, not_true_eq_false, not_false_eq_true, h1, kcls, h3, h4, c_has]
    by_cases z1 : zbit s na = true <;> by_cases z2 : zbit s nb = true <;> simp +decide [z1, z2]
theorem c_ans2 {d : Nat} {h : zH} {q : Nat} {num na nb te lo : Int32} (T : isT h q 2 num na nb te lo) {s hd : Int32} : zcall (zP zM) (d + 3) 27 [.inr (.inr (some q)), .inl s, .inl hd] h = some (some (.inl (if zans (nI 2) na nb num s hd = true then 1 else 0)), h) := by
  have T0 := T
  obtain ⟨h1, h2, h0, h3, h4, -⟩ := T
  rw [e_X5_isAnswered]
  simp +decide only [u_X5_isAnswered_0, u_X5_isAnswered_1, u_X5_isAnswered_2, u_X5_isAnswered_5, u_X5_isAnswered_8, u_X5_isAnswered_11, u_X5_isAnswered_12, u_X5_isAnswered_13, u_X5_isAnswered_14, u_X5_isAnswered_17, u_X5_isAnswered_20, u_X5_isAnswered_21, u_X5_isAnswered_24, u_X5_isAnswered_25, zcl_i, zcl_r, zcl_l, zcl_0, Option.bind_some, Option.bind_none, Option.toList_some, Option.toList_none, List.cons_append, List.nil_append, zk_wI, zk_wR, zk_wC, zr_wI, zr_wC, zi_wR, zn_wI, zn_wR, zn_wC, if_true, if_false, true_or, or_true, or_false, false_or, true_and, and_true, ↓reduceIte, reduceCtorEq, Nat.reduceEqDiff, Nat.reduceLT, Nat.reduceLeDiff, Nat.reduceAdd, Nat.reduceSub, Nat.reduceMul, Int32.reduceLT, Int32.reduceLE, Int32.reduceAdd, Int32.reduceMul, Int32.reduceSub, Int32.reduceToNatClampNeg, and_self, or_self, and_false, false_and, not_true_eq_false, not_false_eq_true, h1, kcls, h0, c_has, c_ans1 T0 (by decide), zans]
  by_cases z1 : zbit s na = true <;> by_cases z2 : zbit s nb = true <;> by_cases z3 : zbit hd num = true <;> simp +decide [z1, z2, z3]
theorem zans_1 {na nb t kn hd : Int32} : zans (nI 1) na nb t kn hd = (zbit kn na && zbit kn nb) := by
  simp +decide [zans]
theorem wlk_min (sp n a : Int32) : (if sp < a + n then sp else a + n) = wlk sp n a := by
  unfold wlk
  by_cases h1 : sp < a + n
  · have h2 : ¬ a + n < sp := fun h => by
      have := Int32.lt_iff_toInt_lt.mp h1
      have := Int32.lt_iff_toInt_lt.mp h
      omega
    rw [if_pos h1, if_neg h2]
  · rw [if_neg h1]
    split
    · rfl
    · rename_i h2
      exact Int32.le_antisymm (Int32.not_lt.mp h1) (Int32.not_lt.mp h2)
theorem cme_eq (sp n a : Int32) : (wlk sp n a = sp) = (¬ a + n < sp) := by
  unfold wlk
  apply propext
  constructor
  · intro h h2
    rw [if_pos h2] at h
    rw [h] at h2
    have := Int32.lt_iff_toInt_lt.mp h2
    omega
  · intro h
    rw [if_neg h]
theorem c_walk {d : Nat} {h : zH} {q : Nat} (hk : zk h q = (4, 0)) {n a0 k c e f g sp bl : Int32} : zcall (zP zM) (d + 1) 24 [.inr (.inr (some q)), .inl n] (cN h q (a0, k, c, e, f, g) sp bl) = some (none, cN h q (wlk sp n a0, k, c, e, f, cme sp n a0) sp bl) := by
  rw [e_X4_walk]
  simp +decide only [u_X4_walk_0, u_X4_walk_1, u_X4_walk_2, u_X4_walk_5, u_X4_walk_6, u_X4_walk_7, u_X4_walk_8, u_X4_walk_11, u_X4_walk_14, u_X4_walk_17, u_X4_walk_18, u_X4_walk_19, u_X4_walk_22, u_X4_walk_23, u_X4_walk_26, u_X4_walk_29, u_X4_walk_30, u_X4_walk_33, u_X4_walk_34, u_X4_walk_37, zcl_i, zcl_r, zcl_l, zcl_0, Option.bind_some, Option.bind_none, Option.toList_some, Option.toList_none, List.cons_append, List.nil_append, zk_wI, zk_wR, zk_wC, zr_wI, zr_wC, zi_wR, zn_wI, zn_wR, zn_wC, if_true, if_false, true_or, or_true, or_false, false_or, true_and, and_true, ↓reduceIte, reduceCtorEq, Nat.reduceEqDiff, Nat.reduceLT, Nat.reduceLeDiff, Nat.reduceAdd, Nat.reduceSub, Nat.reduceMul, Int32.reduceLT, Int32.reduceLE, Int32.reduceAdd, Int32.reduceMul, Int32.reduceSub, Int32.reduceToNatClampNeg, and_self, or_self, and_false, false_and, not_true_eq_false, not_false_eq_true, zk_cN, hk, zi_cN0, zi_cN4, zi_cN5, cN_0, cN_4, wlk_min, cme_eq]
  unfold cme
  by_cases z : a0 + n < sp <;> simp [z]
theorem c_begin {d : Nat} {h : zH} {q : Nat} (hk : zk h q = (4, 0)) {sp k bl : Int32} : zcall (zP zM) (d + 1) 20 [.inr (.inr (some q)), .inl sp, .inl k, .inl bl] h = some (none, cN h q (0, k, 0, 0, 0, 0) sp bl) := by
  rw [e_X4_begin]
  simp +decide only [u_X4_begin_0, u_X4_begin_1, u_X4_begin_2, u_X4_begin_5, u_X4_begin_6, u_X4_begin_7, u_X4_begin_10, u_X4_begin_11, u_X4_begin_12, u_X4_begin_15, u_X4_begin_16, u_X4_begin_17, u_X4_begin_20, u_X4_begin_21, u_X4_begin_22, u_X4_begin_25, u_X4_begin_26, u_X4_begin_27, u_X4_begin_30, u_X4_begin_31, u_X4_begin_32, u_X4_begin_35, u_X4_begin_36, u_X4_begin_37, u_X4_begin_40, zcl_i, zcl_r, zcl_l, zcl_0, Option.bind_some, Option.bind_none, Option.toList_some, Option.toList_none, List.cons_append, List.nil_append, zk_wI, zk_wR, zk_wC, zr_wI, zr_wC, zi_wR, zn_wI, zn_wR, zn_wC, if_true, if_false, true_or, or_true, or_false, false_or, true_and, and_true, ↓reduceIte, reduceCtorEq, Nat.reduceEqDiff, Nat.reduceLT, Nat.reduceLeDiff, Nat.reduceAdd, Nat.reduceSub, Nat.reduceMul, Int32.reduceLT, Int32.reduceLE, Int32.reduceAdd, Int32.reduceMul, Int32.reduceSub, Int32.reduceToNatClampNeg, and_self, or_self, and_false, false_and, not_true_eq_false, not_false_eq_true, hk]
  rfl
theorem isT_cN {h : zH} {q k : Nat} {num na nb te lo : Int32} (T : isT h q k num na nb te lo) {a : Nat} (hne : q ≠ a) {s : zNt} {sp bl : Int32} : isT (cN h a s sp bl) q k num na nb te lo := by
  obtain ⟨h1, h2, h3, h4, h5, h6, h7⟩ := T
  exact ⟨h1, h2, by rw [zi_cN hne]; exact h3, by rw [zi_cN hne]; exact h4, by rw [zi_cN hne]; exact h5, by rw [zi_cN hne]; exact h6, by rw [zi_cN hne]; exact h7⟩
theorem c_learn {d : Nat} {h : zH} {q a k : Nat} (hk : zk h a = (4, 0)) {num na nb te lo : Int32} (T : isT h q k num na nb te lo) (hne : q ≠ a) {a0 kn c e f g sp bl : Int32} : zcall (zP zM) (d + 1) 23 [.inr (.inr (some a)), .inr (.inr (some q))] (cN h a (a0, kn, c, e, f, g) sp bl) = some (none, cN h a (a0, kn ||| 1 <<< (te &&& 31), c, e, f, g) sp bl) := by
  obtain ⟨h1, h2, -, -, -, h3, -⟩ := T
  have h4 : zi (cN h a (a0, kn, c, e, f, g) sp bl) q 3 = te := by rw [zi_cN hne]; exact h3
  rw [e_X4_learn]
  rcases (show k = 0 ∨ k = 1 ∨ k = 2 by omega) with rfl | rfl | rfl <;>
  simp +decide only [u_X4_learn_0, u_X4_learn_1, u_X4_learn_2, u_X4_learn_5, u_X4_learn_6, u_X4_learn_7, u_X4_learn_10, u_X4_learn_11, u_X4_learn_12, u_X4_learn_15, zcl_i, zcl_r, zcl_l, zcl_0, Option.bind_some, Option.bind_none, Option.toList_some, Option.toList_none, List.cons_append, List.nil_append, zk_wI, zk_wR, zk_wC, zr_wI, zr_wC, zi_wR, zn_wI, zn_wR, zn_wC, if_true, if_false, true_or, or_true, or_false, false_or, true_and, and_true, ↓reduceIte, reduceCtorEq, Nat.reduceEqDiff, Nat.reduceLT, Nat.reduceLeDiff, Nat.reduceAdd, Nat.reduceSub, Nat.reduceMul, Int32.reduceLT, Int32.reduceLE, Int32.reduceAdd, Int32.reduceMul, Int32.reduceSub, Int32.reduceToNatClampNeg, and_self, or_self, and_false, false_and, not_true_eq_false, not_false_eq_true, zk_cN, hk, h1, kcls, h4, zi_cN3, cN_3]
theorem c_hear {d : Nat} {h : zH} {q a k : Nat} (hk : zk h a = (4, 0)) {num na nb te lo : Int32} (T : isT h q k num na nb te lo) (hne : q ≠ a) {s : zNt} {sp bl hk0 : Int32} : zcall (zP zM) (d + 4) 22 [.inr (.inr (some a)), .inr (.inr (some q)), .inl hk0] (cN h a s sp bl) = some (none, cN h a (hP sp bl (nI k) na nb te lo num (!decide (hk0 = 0)) s) sp bl) := by
  obtain ⟨a0, kn, c, e, f, g⟩ := s
  have h0 : ∀ {s : zNt}, zi (cN h a s sp bl) q 0 = num := (zi_cN hne).trans T.2.2.1
  have h4 : ∀ {s : zNt}, zi (cN h a s sp bl) q 4 = lo := (zi_cN hne).trans T.2.2.2.2.2.2
  have T1 : ∀ {s : zNt}, isT (cN h a s sp bl) q k num na nb te lo := isT_cN T hne
  have h1 := T.1
  rw [e_X4_hear]
  rcases (show k = 0 ∨ k = 1 ∨ k = 2 by have := T.2.1; omega) with rfl | rfl | rfl
  · simp +decide only [u_X4_hear_0, u_X4_hear_1, u_X4_hear_4, u_X4_hear_5, u_X4_hear_8, u_X4_hear_11, u_X4_hear_12, u_X4_hear_13, u_X4_hear_14, u_X4_hear_17, u_X4_hear_20, u_X4_hear_21, u_X4_hear_24, u_X4_hear_27, u_X4_hear_28, u_X4_hear_29, u_X4_hear_30, u_X4_hear_33, u_X4_hear_34, u_X4_hear_37, u_X4_hear_40, u_X4_hear_43, u_X4_hear_44, u_X4_hear_44i, u_X4_hear_45, u_X4_hear_48, u_X4_hear_49, u_X4_hear_50, u_X4_hear_53, u_X4_hear_54, u_X4_hear_55, u_X4_hear_58, u_X4_hear_61, u_X4_hear_62, u_X4_hear_63, u_X4_hear_66, u_X4_hear_69, u_X4_hear_72, u_X4_hear_73, u_X4_hear_74, u_X4_hear_77, u_X4_hear_78, u_X4_hear_78i, u_X4_hear_79, u_X4_hear_82, u_X4_hear_83, u_X4_hear_84, u_X4_hear_87, u_X4_hear_88, u_X4_hear_89, u_X4_hear_92, u_X4_hear_93, u_X4_hear_94, u_X4_hear_97, u_X4_hear_98, u_X4_hear_99, u_X4_hear_102, u_X4_hear_103, u_X4_hear_106, u_X4_hear_107, u_X4_hear_108, u_X4_hear_111, zcl_i, zcl_r, zcl_l, zcl_0, Option.bind_some, Option.bind_none, Option.toList_some, Option.toList_none, List.cons_append, List.nil_append, zk_wI, zk_wR, zk_wC, zr_wI, zr_wC, zi_wR, zn_wI, zn_wR, zn_wC, if_true, if_false, true_or, or_true, or_false, false_or, true_and, and_true, ↓reduceIte, reduceCtorEq, Nat.reduceEqDiff, Nat.reduceLT, Nat.reduceLeDiff, Nat.reduceAdd, Nat.reduceSub, Nat.reduceMul, Int32.reduceLT, Int32.reduceLE, Int32.reduceAdd, Int32.reduceMul, Int32.reduceSub, Int32.reduceToNatClampNeg, and_self, or_self, and_false, false_and, not_true_eq_false, not_false_eq_true, zk_cN, hk, h1, kcls, h0, h4, c_walk hk, c_ans0 T1, c_eitherNeed T1, c_learn hk T hne, zi_cN0, zi_cN1, zi_cN2, zi_cN3, zi_cN4, zi_cN6, zi_cN7, cN_0, cN_1, cN_2, cN_7]
    by_cases q0 : g = 0 <;> by_cases q1 : a0 + lo < sp <;> by_cases q2 : zans (nI 0) na nb num kn c = true <;> by_cases q3 : (zbit bl na || zbit bl nb) = true <;> by_cases q4 : hk0 = 0 <;> simp +decide [hP, qP, wlk, cme, q0, q1, q2, q3, q4]
  · simp +decide only [u_X4_hear_0, u_X4_hear_1, u_X4_hear_4, u_X4_hear_5, u_X4_hear_8, u_X4_hear_11, u_X4_hear_12, u_X4_hear_13, u_X4_hear_14, u_X4_hear_17, u_X4_hear_20, u_X4_hear_21, u_X4_hear_24, u_X4_hear_27, u_X4_hear_28, u_X4_hear_29, u_X4_hear_30, u_X4_hear_33, u_X4_hear_34, u_X4_hear_37, u_X4_hear_40, u_X4_hear_43, u_X4_hear_44, u_X4_hear_44i, u_X4_hear_45, u_X4_hear_48, u_X4_hear_49, u_X4_hear_50, u_X4_hear_53, u_X4_hear_54, u_X4_hear_55, u_X4_hear_58, u_X4_hear_61, u_X4_hear_62, u_X4_hear_63, u_X4_hear_66, u_X4_hear_69, u_X4_hear_72, u_X4_hear_73, u_X4_hear_74, u_X4_hear_77, u_X4_hear_78, u_X4_hear_78i, u_X4_hear_79, u_X4_hear_82, u_X4_hear_83, u_X4_hear_84, u_X4_hear_87, u_X4_hear_88, u_X4_hear_89, u_X4_hear_92, u_X4_hear_93, u_X4_hear_94, u_X4_hear_97, u_X4_hear_98, u_X4_hear_99, u_X4_hear_102, u_X4_hear_103, u_X4_hear_106, u_X4_hear_107, u_X4_hear_108, u_X4_hear_111, zcl_i, zcl_r, zcl_l, zcl_0, Option.bind_some, Option.bind_none, Option.toList_some, Option.toList_none, List.cons_append, List.nil_append, zk_wI, zk_wR, zk_wC, zr_wI, zr_wC, zi_wR, zn_wI, zn_wR, zn_wC, if_true, if_false, true_or, or_true, or_false, false_or, true_and, and_true, ↓reduceIte, reduceCtorEq, Nat.reduceEqDiff, Nat.reduceLT, Nat.reduceLeDiff, Nat.reduceAdd, Nat.reduceSub, Nat.reduceMul, Int32.reduceLT, Int32.reduceLE, Int32.reduceAdd, Int32.reduceMul, Int32.reduceSub, Int32.reduceToNatClampNeg, and_self, or_self, and_false, false_and, not_true_eq_false, not_false_eq_true, zk_cN, hk, h1, kcls, h0, h4, c_walk hk, c_ans1 T1 (by decide), ← zans_1 (t := num) (hd := c), c_eitherNeed T1, c_learn hk T hne, zi_cN0, zi_cN1, zi_cN2, zi_cN3, zi_cN4, zi_cN6, zi_cN7, cN_0, cN_1, cN_2, cN_7]
    by_cases q0 : g = 0 <;> by_cases q1 : a0 + lo < sp <;> by_cases q2 : zans (nI 1) na nb num kn c = true <;> by_cases q3 : (zbit bl na || zbit bl nb) = true <;> by_cases q4 : hk0 = 0 <;> simp +decide [hP, qP, wlk, cme, q0, q1, q2, q3, q4]
  · simp +decide only [u_X4_hear_0, u_X4_hear_1, u_X4_hear_4, u_X4_hear_5, u_X4_hear_8, u_X4_hear_11, u_X4_hear_12, u_X4_hear_13, u_X4_hear_14, u_X4_hear_17, u_X4_hear_20, u_X4_hear_21, u_X4_hear_24, u_X4_hear_27, u_X4_hear_28, u_X4_hear_29, u_X4_hear_30, u_X4_hear_33, u_X4_hear_34, u_X4_hear_37, u_X4_hear_40, u_X4_hear_43, u_X4_hear_44, u_X4_hear_44i, u_X4_hear_45, u_X4_hear_48, u_X4_hear_49, u_X4_hear_50, u_X4_hear_53, u_X4_hear_54, u_X4_hear_55, u_X4_hear_58, u_X4_hear_61, u_X4_hear_62, u_X4_hear_63, u_X4_hear_66, u_X4_hear_69, u_X4_hear_72, u_X4_hear_73, u_X4_hear_74, u_X4_hear_77, u_X4_hear_78, u_X4_hear_78i, u_X4_hear_79, u_X4_hear_82, u_X4_hear_83, u_X4_hear_84, u_X4_hear_87, u_X4_hear_88, u_X4_hear_89, u_X4_hear_92, u_X4_hear_93, u_X4_hear_94, u_X4_hear_97, u_X4_hear_98, u_X4_hear_99, u_X4_hear_102, u_X4_hear_103, u_X4_hear_106, u_X4_hear_107, u_X4_hear_108, u_X4_hear_111, zcl_i, zcl_r, zcl_l, zcl_0, Option.bind_some, Option.bind_none, Option.toList_some, Option.toList_none, List.cons_append, List.nil_append, zk_wI, zk_wR, zk_wC, zr_wI, zr_wC, zi_wR, zn_wI, zn_wR, zn_wC, if_true, if_false, true_or, or_true, or_false, false_or, true_and, and_true, ↓reduceIte, reduceCtorEq, Nat.reduceEqDiff, Nat.reduceLT, Nat.reduceLeDiff, Nat.reduceAdd, Nat.reduceSub, Nat.reduceMul, Int32.reduceLT, Int32.reduceLE, Int32.reduceAdd, Int32.reduceMul, Int32.reduceSub, Int32.reduceToNatClampNeg, and_self, or_self, and_false, false_and, not_true_eq_false, not_false_eq_true, zk_cN, hk, h1, kcls, h0, h4, c_walk hk, c_ans2 T1, c_eitherNeed T1, c_learn hk T hne, zi_cN0, zi_cN1, zi_cN2, zi_cN3, zi_cN4, zi_cN6, zi_cN7, cN_0, cN_1, cN_2, cN_7]
    by_cases q0 : g = 0 <;> by_cases q1 : a0 + lo < sp <;> by_cases q2 : zans (nI 2) na nb num kn c = true <;> by_cases q3 : (zbit bl na || zbit bl nb) = true <;> by_cases q4 : hk0 = 0 <;> simp +decide [hP, qP, wlk, cme, q0, q1, q2, q3, q4]
