/-! methods without tales -/
theorem st_trace {h : zH} (I : Inv h) : Stq 77 140 [] h := by
  have I0 := I
  obtain ⟨S, h1, n, h2, h3, h4, h5, h6⟩ := I
  refine ⟨.inl (zi h 37 42), h, h, ?_, ?_, I0, by omega, by omega⟩
  · rw [e_X10_trace]
    simp +decide only [u_X10_trace_0, u_X10_trace_1, u_X10_trace_4, u_X10_trace_7, zcl_i, zcl_r, zcl_l, zcl_0, Option.bind_some, Option.bind_none, Option.toList_some, Option.toList_none, List.cons_append, List.nil_append, zk_wI, zk_wR, zk_wC, zr_wI, zr_wC, zi_wR, zn_wI, zn_wR, zn_wC, if_true, if_false, true_or, or_true, or_false, false_or, true_and, and_true, ↓reduceIte, reduceCtorEq, Nat.reduceEqDiff, Nat.reduceLT, Nat.reduceLeDiff, Nat.reduceAdd, Nat.reduceSub, Nat.reduceMul, Int32.reduceLT, Int32.reduceLE, Int32.reduceAdd, Int32.reduceMul, Int32.reduceSub, Int32.reduceToNatClampNeg, and_self, or_self, and_false, false_and, not_true_eq_false, not_false_eq_true, K1 S, R1_5 S, K9 S, h4.2]
  · rw [e_X11_trace]
    simp +decide only [u_X11_trace_0, u_X11_trace_1, u_X11_trace_4, zcl_i, zcl_r, zcl_l, zcl_0, Option.bind_some, Option.bind_none, Option.toList_some, Option.toList_none, List.cons_append, List.nil_append, zk_wI, zk_wR, zk_wC, zr_wI, zr_wC, zi_wR, zn_wI, zn_wR, zn_wC, if_true, if_false, true_or, or_true, or_false, false_or, true_and, and_true, ↓reduceIte, reduceCtorEq, Nat.reduceEqDiff, Nat.reduceLT, Nat.reduceLeDiff, Nat.reduceAdd, Nat.reduceSub, Nat.reduceMul, Int32.reduceLT, Int32.reduceLE, Int32.reduceAdd, Int32.reduceMul, Int32.reduceSub, Int32.reduceToNatClampNeg, and_self, or_self, and_false, false_and, not_true_eq_false, not_false_eq_true, K37 S]
theorem st_fault {h : zH} (I : Inv h) : Stq 78 141 [] h := by
  have I0 := I
  obtain ⟨S, h1, n, h2, h3, h4, h5, h6⟩ := I
  refine ⟨.inl (zi h 37 0), h, h, ?_, ?_, I0, by omega, by omega⟩
  · rw [e_X10_fault]
    simp +decide only [u_X10_fault_0, u_X10_fault_1, u_X10_fault_4, zcl_i, zcl_r, zcl_l, zcl_0, Option.bind_some, Option.bind_none, Option.toList_some, Option.toList_none, List.cons_append, List.nil_append, zk_wI, zk_wR, zk_wC, zr_wI, zr_wC, zi_wR, zn_wI, zn_wR, zn_wC, if_true, if_false, true_or, or_true, or_false, false_or, true_and, and_true, ↓reduceIte, reduceCtorEq, Nat.reduceEqDiff, Nat.reduceLT, Nat.reduceLeDiff, Nat.reduceAdd, Nat.reduceSub, Nat.reduceMul, Int32.reduceLT, Int32.reduceLE, Int32.reduceAdd, Int32.reduceMul, Int32.reduceSub, Int32.reduceToNatClampNeg, and_self, or_self, and_false, false_and, not_true_eq_false, not_false_eq_true, K1 S, h4.1]
  · rw [e_X11_fault]
    simp +decide only [u_X11_fault_0, u_X11_fault_1, u_X11_fault_4, zcl_i, zcl_r, zcl_l, zcl_0, Option.bind_some, Option.bind_none, Option.toList_some, Option.toList_none, List.cons_append, List.nil_append, zk_wI, zk_wR, zk_wC, zr_wI, zr_wC, zi_wR, zn_wI, zn_wR, zn_wC, if_true, if_false, true_or, or_true, or_false, false_or, true_and, and_true, ↓reduceIte, reduceCtorEq, Nat.reduceEqDiff, Nat.reduceLT, Nat.reduceLeDiff, Nat.reduceAdd, Nat.reduceSub, Nat.reduceMul, Int32.reduceLT, Int32.reduceLE, Int32.reduceAdd, Int32.reduceMul, Int32.reduceSub, Int32.reduceToNatClampNeg, and_self, or_self, and_false, false_and, not_true_eq_false, not_false_eq_true, K37 S]
theorem st_many {h : zH} (I : Inv h) {w : Int32} : Stq 79 142 [.inl w] h := by
  have I0 := I
  obtain ⟨S, h1, n, ⟨-, a1, a2, a3, -⟩, ⟨k, b, -, -, b1, b2, b3, b4⟩, h4, ⟨r, -, r1, r2, -⟩, h6⟩ := I
  refine ⟨.inl (if w = 0 then nI n else if w = 1 then zi h 37 1 else if w = 2 then nI k else if w = 3 then nI b else if w = 4 then nI r else -2), h, h, ?_, ?_, I0, by omega, by omega⟩
  · rw [e_X10_many]
    simp +decide only [u_X10_many_0, u_X10_many_1, u_X10_many_36, u_X10_many_37, u_X10_many_40, u_X10_many_43, u_X10_many_44, u_X10_many_45, u_X10_many_48, u_X10_many_51, u_X10_many_52, u_X10_many_53, u_X10_many_56, u_X10_many_57, u_X10_many_58, u_X10_many_61, u_X10_many_62, u_X10_many_63, u_X10_many_66, u_X10_many_69, u_X10_many_70, u_X10_many_72, zcl_i, zcl_r, zcl_l, zcl_0, Option.bind_some, Option.bind_none, Option.toList_some, Option.toList_none, List.cons_append, List.nil_append, zk_wI, zk_wR, zk_wC, zr_wI, zr_wC, zi_wR, zn_wI, zn_wR, zn_wC, if_true, if_false, true_or, or_true, or_false, false_or, true_and, and_true, ↓reduceIte, reduceCtorEq, Nat.reduceEqDiff, Nat.reduceLT, Nat.reduceLeDiff, Nat.reduceAdd, Nat.reduceSub, Nat.reduceMul, Int32.reduceLT, Int32.reduceLE, Int32.reduceAdd, Int32.reduceMul, Int32.reduceSub, Int32.reduceToNatClampNeg, and_self, or_self, and_false, false_and, not_true_eq_false, not_false_eq_true, K1 S, R1_0 S, R1_3 S, K2 S, K4 S, a1, a3, b1, b3, r1]
    split
    · rfl
    · split
      · rfl
      · split
        · rfl
        · split
          · rfl
          · split <;> rfl
  · rw [e_X11_many]
    simp +decide only [u_X11_many_0, u_X11_many_1, u_X11_many_36, u_X11_many_37, u_X11_many_40, u_X11_many_41, u_X11_many_42, u_X11_many_45, u_X11_many_46, u_X11_many_47, u_X11_many_50, u_X11_many_51, u_X11_many_52, u_X11_many_55, u_X11_many_56, u_X11_many_57, u_X11_many_60, u_X11_many_61, u_X11_many_63, zcl_i, zcl_r, zcl_l, zcl_0, Option.bind_some, Option.bind_none, Option.toList_some, Option.toList_none, List.cons_append, List.nil_append, zk_wI, zk_wR, zk_wC, zr_wI, zr_wC, zi_wR, zn_wI, zn_wR, zn_wC, if_true, if_false, true_or, or_true, or_false, false_or, true_and, and_true, ↓reduceIte, reduceCtorEq, Nat.reduceEqDiff, Nat.reduceLT, Nat.reduceLeDiff, Nat.reduceAdd, Nat.reduceSub, Nat.reduceMul, Int32.reduceLT, Int32.reduceLE, Int32.reduceAdd, Int32.reduceMul, Int32.reduceSub, Int32.reduceToNatClampNeg, and_self, or_self, and_false, false_and, not_true_eq_false, not_false_eq_true, K37 S, a2, b2, b4, r2]
    split
    · rfl
    · split
      · rfl
      · split
        · rfl
        · split
          · rfl
          · split <;> rfl
