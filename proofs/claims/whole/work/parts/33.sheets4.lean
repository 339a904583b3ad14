/-! sheet -/
/-- n int slots of cell a from b on, by f -/
def zwS (h : zH) (a b n : Nat) (f : Nat → Int32) : zH := (h.1, h.2.1, h.2.2.1, fun x y => if x = a ∧ b ≤ y ∧ y < b + n then f (y - b) else h.2.2.2.1 x y, h.2.2.2.2)
theorem zi_wS {h : zH} {a b n : Nat} {f : Nat → Int32} {x y : Nat} : zi (zwS h a b n f) x y = if x = a ∧ b ≤ y ∧ y < b + n then f (y - b) else zi h x y := rfl
theorem zk_wS {h : zH} {a b n : Nat} {f : Nat → Int32} {x : Nat} : zk (zwS h a b n f) x = zk h x := rfl
theorem zr_wS {h : zH} {a b n : Nat} {f : Nat → Int32} {x y : Nat} : zr (zwS h a b n f) x y = zr h x y := rfl
theorem zn_wS {h : zH} {a b n : Nat} {f : Nat → Int32} : zn (zwS h a b n f) = zn h := rfl
theorem zu_wS {h : zH} {a b n : Nat} {f : Nat → Int32} : zu (zwS h a b n f) = zu h := rfl
theorem zwS_0 {h : zH} {a b : Nat} {f : Nat → Int32} : zwS h a b 0 f = h := by
  refine zH_ext rfl rfl (fun _ => rfl) (fun x y => ?_) (fun _ _ => rfl)
  rw [zi_wS, if_neg (by omega)]
theorem zwS_succ {h : zH} {a b n : Nat} {f : Nat → Int32} : zwI (zwS h a b n f) a (b + n) (f n) = zwS h a b (n + 1) f := by
  refine zH_ext rfl rfl (fun _ => rfl) (fun x y => ?_) (fun _ _ => rfl)
  rw [zi_wI, zi_wS, zi_wS]
  by_cases h1 : x = a ∧ y = b + n
  · rw [if_pos h1, if_pos (by omega), h1.2, Nat.add_sub_cancel_left]
  · rw [if_neg h1]
    by_cases h2 : x = a ∧ b ≤ y ∧ y < b + n
    · rw [if_pos h2, if_pos (by omega)]
    · rw [if_neg h2, if_neg (by omega)]
theorem c_fill {d : Nat} {h : zH} {a : Nat} (A : zk h a = (12, 60)) {v : Int32} : zcall (zP zM) (d + 1) 144 [.inr (.inr (some a)), .inl v] h = some (none, zwS h a 0 60 (fun _ => v)) := by
  have key : ∀ (m x : Nat), x + m = 60 → zX d tb_J7_fill_53178 5 [some (.inr (.inr (some a))), some (.inl v), some (.inl (nI x)), some (.inl (nI 60))] [] (zwS h a 0 x (fun _ => v)) = some (none, zwS h a 0 60 (fun _ => v)) := by
    intro m
    induction m with
    | zero =>
      intro x hx
      have e : x = 60 := by omega
      subst e
      simp +decide only [u_J7_fill_53178_0, u_J7_fill_53178_1, u_J7_fill_53178_2, u_J7_fill_53178_3, u_J7_fill_53178_4, u_J7_fill_53178_5, u_J7_fill_53178_6, u_J7_fill_53178_7, u_J7_fill_53178_10, u_J7_fill_53178_11, u_J7_fill_53178_12, u_J7_fill_53178_13, u_J7_fill_53178_14, u_J7_fill_53178_17, u_J7_fill_53178_20, zcl_i, zcl_r, zcl_l, zcl_0, Option.bind_some, Option.bind_none, Option.toList_some, Option.toList_none, List.cons_append, List.nil_append, zk_wI, zk_wR, zk_wC, zr_wI, zr_wC, zi_wR, zn_wI, zn_wR, zn_wC, if_true, if_false, true_or, or_true, or_false, false_or, true_and, and_true, ↓reduceIte, reduceCtorEq, Nat.reduceEqDiff, Nat.reduceLT, Nat.reduceLeDiff, Nat.reduceAdd, Nat.reduceSub, Nat.reduceMul, Int32.reduceLT, Int32.reduceLE, Int32.reduceAdd, Int32.reduceMul, Int32.reduceSub, Int32.reduceToNatClampNeg, and_self, or_self, and_false, false_and, not_true_eq_false, not_false_eq_true]
    | succ m ih =>
      intro x hx
      have hlt : x < 60 := by omega
      have e1 : zwI (zwS h a 0 x (fun _ => v)) a x v = zwS h a 0 (x + 1) (fun _ => v) := by
        have := zwS_succ (h := h) (a := a) (b := 0) (n := x) (f := fun _ => v)
        rw [Nat.zero_add] at this
        exact this
      rw [u_J7_fill_53178_5]
      simp +decide only [u_J7_fill_53178_0, u_J7_fill_53178_1, u_J7_fill_53178_2, u_J7_fill_53178_3, u_J7_fill_53178_4, u_J7_fill_53178_6, u_J7_fill_53178_7, u_J7_fill_53178_10, u_J7_fill_53178_11, u_J7_fill_53178_12, u_J7_fill_53178_13, u_J7_fill_53178_14, u_J7_fill_53178_17, u_J7_fill_53178_20, zcl_i, zcl_r, zcl_l, zcl_0, Option.bind_some, Option.bind_none, Option.toList_some, Option.toList_none, List.cons_append, List.nil_append, zk_wI, zk_wR, zk_wC, zr_wI, zr_wC, zi_wR, zn_wI, zn_wR, zn_wC, if_true, if_false, true_or, or_true, or_false, false_or, true_and, and_true, ↓reduceIte, reduceCtorEq, Nat.reduceEqDiff, Nat.reduceLT, Nat.reduceLeDiff, Nat.reduceAdd, Nat.reduceSub, Nat.reduceMul, Int32.reduceLT, Int32.reduceLE, Int32.reduceAdd, Int32.reduceMul, Int32.reduceSub, Int32.reduceToNatClampNeg, and_self, or_self, and_false, false_and, not_true_eq_false, not_false_eq_true, nI_ltI' (show x < 2 ^ 31 by omega) (show 60 < 2 ^ 31 by omega), hlt, zk_wS, A, zix_nI hlt (by decide), nI_1, e1]
      exact ih (x + 1) (by omega)
  rw [e_J7_fill_53178]
  simp +decide only [u_J7_fill_53178_0, u_J7_fill_53178_1, u_J7_fill_53178_2, u_J7_fill_53178_3, u_J7_fill_53178_4, u_J7_fill_53178_6, u_J7_fill_53178_7, u_J7_fill_53178_10, u_J7_fill_53178_11, u_J7_fill_53178_12, u_J7_fill_53178_13, u_J7_fill_53178_14, u_J7_fill_53178_17, u_J7_fill_53178_20, zcl_i, zcl_r, zcl_l, zcl_0, Option.bind_some, Option.bind_none, Option.toList_some, Option.toList_none, List.cons_append, List.nil_append, zk_wI, zk_wR, zk_wC, zr_wI, zr_wC, zi_wR, zn_wI, zn_wR, zn_wC, if_true, if_false, true_or, or_true, or_false, false_or, true_and, and_true, ↓reduceIte, reduceCtorEq, Nat.reduceEqDiff, Nat.reduceLT, Nat.reduceLeDiff, Nat.reduceAdd, Nat.reduceSub, Nat.reduceMul, Int32.reduceLT, Int32.reduceLE, Int32.reduceAdd, Int32.reduceMul, Int32.reduceSub, Int32.reduceToNatClampNeg, and_self, or_self, and_false, false_and, not_true_eq_false, not_false_eq_true, A]
  exact (congrArg (fun H => zX d tb_J7_fill_53178 5 [some (.inr (.inr (some a))), some (.inl v), some (.inl (nI 0)), some (.inl (nI 60))] [] H) (zwS_0 (h := h) (a := a) (b := 0) (f := fun _ => v)).symm).trans (key 60 0 (by omega))
theorem c_renew {d : Nat} {h : zH} {a c : Nat} (A : isSh h a c) {n : Nat} (hn : n ≤ 60) {l : Int32} : zcall (zP zM) (d + 2) 35 [.inr (.inr (some a)), .inl l, .inl (nI n)] h = some (none, zwI (zwI (zwS h c 0 60 (fun _ => 0)) a 0 l) a 1 (nI n)) := by
  have q1 : ¬ nI n < 0 := nI_pos (by omega)
  have q2 : ¬ (60 : Int32) < nI n := by
    rw [show (60 : Int32) = nI 60 from rfl, nI_ltI' (by decide) (show n < 2 ^ 31 by omega)]
    omega
  rw [e_X7_renew]
  simp +decide only [u_X7_renew_0, u_X7_renew_1, u_X7_renew_4, u_X7_renew_5, u_X7_renew_8, u_X7_renew_9, u_X7_renew_10, u_X7_renew_13, u_X7_renew_14, u_X7_renew_15, u_X7_renew_16, u_X7_renew_19, u_X7_renew_21, u_X7_renew_24, u_X7_renew_27, zcl_i, zcl_r, zcl_l, zcl_0, Option.bind_some, Option.bind_none, Option.toList_some, Option.toList_none, List.cons_append, List.nil_append, zk_wI, zk_wR, zk_wC, zr_wI, zr_wC, zi_wR, zn_wI, zn_wR, zn_wC, if_true, if_false, true_or, or_true, or_false, false_or, true_and, and_true, ↓reduceIte, reduceCtorEq, Nat.reduceEqDiff, Nat.reduceLT, Nat.reduceLeDiff, Nat.reduceAdd, Nat.reduceSub, Nat.reduceMul, Int32.reduceLT, Int32.reduceLE, Int32.reduceAdd, Int32.reduceMul, Int32.reduceSub, Int32.reduceToNatClampNeg, and_self, or_self, and_false, false_and, not_true_eq_false, not_false_eq_true, A.1, A.2.1, c_fill A.2.2, zk_wS, q1, q2]
/-- the rest is as it was, and the sheets agree -/
theorem Inv_sh {h h' : zH} (I : Inv h) (e1 : zn h' = zn h) (e3 : ∀ a, zk h' a = zk h a) (e4 : ∀ a j, zr h' a j = zr h a j) (q : ∀ a j, ¬ (29 ≤ a ∧ a ≤ 36) → ¬ (60 ≤ a ∧ a ≤ 63) → zi h' a j = zi h a j) (J : IvS h') : Inv h' := by
  obtain ⟨S, h1, n, T, K, F, R, _⟩ := I
  refine ⟨⟨fun a x y => (e3 a).trans (S.1 a x y), fun a j r hr => (e4 a j).trans (S.2 a j r hr)⟩, by omega, n, ?_, ?_, ?_, ?_, J⟩
  · obtain ⟨h1, h2, h3, h4, ⟨s, h5, h6, h7⟩, h8⟩ := T
    refine ⟨h1, by rw [q 2 1 (by omega) (by omega)]; exact h2, by rw [q 37 2 (by omega) (by omega)]; exact h3, by rw [q 2 0 (by omega) (by omega), q 37 1 (by omega) (by omega)]; exact h4, ⟨s, h5, h6, by rw [q 37 1 (by omega) (by omega)]; exact h7⟩, fun t ht => ?_⟩
    obtain ⟨ta, k, t1, t2, t3, t4, ⟨u1, u2, u3, u4, u5, u6, u7⟩, r⟩ := h8 t ht
    rw [q 38 t (by omega) (by omega), q 39 t (by omega) (by omega), q 40 t (by omega) (by omega), q 41 t (by omega) (by omega), q 42 t (by omega) (by omega)]
    refine ⟨ta, k, by rw [e4]; exact t1, t2, by omega, t4, ⟨by rw [e3]; exact u1, u2, ?_, ?_, ?_, ?_, ?_⟩, r⟩
    · rw [q ta 0 (by omega) (by omega)]; exact u3
    · rw [q ta 1 (by omega) (by omega)]; exact u4
    · rw [q ta 2 (by omega) (by omega)]; exact u5
    · rw [q ta 3 (by omega) (by omega)]; exact u6
    · rw [q ta 4 (by omega) (by omega)]; exact u7
  · obtain ⟨k, b, h1, h2, h3, h4, h5, h6⟩ := K
    exact ⟨k, b, h1, h2, by rw [q 1 1 (by omega) (by omega)]; exact h3, by rw [q 37 8 (by omega) (by omega)]; exact h4, by rw [q 1 2 (by omega) (by omega)]; exact h5, by rw [q 37 9 (by omega) (by omega)]; exact h6⟩
  · exact ⟨by rw [q 1 6 (by omega) (by omega), q 37 0 (by omega) (by omega)]; exact F.1, by rw [q 9 0 (by omega) (by omega), q 37 42 (by omega) (by omega)]; exact F.2⟩
  · obtain ⟨r, h1, h2, h3, h4⟩ := R
    refine ⟨r, h1, by rw [q 4 0 (by omega) (by omega)]; exact h2, by rw [q 37 34 (by omega) (by omega)]; exact h3, fun i hi => ?_⟩
    rw [q 5 i (by omega) (by omega), q 57 i (by omega) (by omega), q 6 i (by omega) (by omega), q 58 i (by omega) (by omega), q 7 i (by omega) (by omega), q 59 i (by omega) (by omega)]
    exact h4 i hi
/-- the loop of the reference's sheet -/
theorem l_sheet {d : Nat} {h : zH} (S : St h) {j n : Nat} (hj : j < 4) (hn : n ≤ 60) {l : Int32} : zX (d + 1) tb_X11_sheet 65 [some (.inr (.inr (some 37))), some (.inl (nI j)), some (.inl l), some (.inl (nI n)), some (.inl (nI 0))] [] h = some (some (.inl 1), zwI (zwS h 62 (60 * j) n (fun _ => 0)) 37 0 0) := by
  have hm : 60 * nI j = nI (60 * j) := pk_mul 60 j
  have key : ∀ (m x : Nat), x + m = n → zX (d + 1) tb_X11_sheet 65 [some (.inr (.inr (some 37))), some (.inl (nI j)), some (.inl l), some (.inl (nI n)), some (.inl (nI x))] [] (zwS h 62 (60 * j) x (fun _ => 0)) = some (some (.inl 1), zwI (zwS h 62 (60 * j) n (fun _ => 0)) 37 0 0) := by
    intro m
    induction m with
    | zero =>
      intro x hx
      have e : x = n := by omega
      subst e
      have S2 : St (zwS h 62 (60 * j) x (fun _ => 0)) := S
      simp +decide only [u_X11_sheet_0, u_X11_sheet_1, u_X11_sheet_4, u_X11_sheet_7, u_X11_sheet_8, u_X11_sheet_9, u_X11_sheet_12, u_X11_sheet_13, u_X11_sheet_14, u_X11_sheet_15, u_X11_sheet_16, u_X11_sheet_19, u_X11_sheet_22, u_X11_sheet_25, u_X11_sheet_26, u_X11_sheet_28, u_X11_sheet_31, u_X11_sheet_32, u_X11_sheet_34, u_X11_sheet_37, u_X11_sheet_38, u_X11_sheet_39, u_X11_sheet_42, u_X11_sheet_43, u_X11_sheet_44, u_X11_sheet_47, u_X11_sheet_48, u_X11_sheet_49, u_X11_sheet_52, u_X11_sheet_53, u_X11_sheet_54, u_X11_sheet_55, u_X11_sheet_56, u_X11_sheet_59, u_X11_sheet_60, u_X11_sheet_61, u_X11_sheet_62, u_X11_sheet_63, u_X11_sheet_65, u_X11_sheet_67, u_X11_sheet_68, u_X11_sheet_71, u_X11_sheet_72, u_X11_sheet_75, u_X11_sheet_77, u_X11_sheet_78, u_X11_sheet_79, u_X11_sheet_81, u_X11_sheet_82, u_X11_sheet_83, u_X11_sheet_84, u_X11_sheet_87, u_X11_sheet_90, u_X11_sheet_91, u_X11_sheet_92, u_X11_sheet_95, zcl_i, zcl_r, zcl_l, zcl_0, Option.bind_some, Option.bind_none, Option.toList_some, Option.toList_none, List.cons_append, List.nil_append, zk_wI, zk_wR, zk_wC, zr_wI, zr_wC, zi_wR, zn_wI, zn_wR, zn_wC, if_true, if_false, true_or, or_true, or_false, false_or, true_and, and_true, ↓reduceIte, reduceCtorEq, Nat.reduceEqDiff, Nat.reduceLT, Nat.reduceLeDiff, Nat.reduceAdd, Nat.reduceSub, Nat.reduceMul, Int32.reduceLT, Int32.reduceLE, Int32.reduceAdd, Int32.reduceMul, Int32.reduceSub, Int32.reduceToNatClampNeg, and_self, or_self, and_false, false_and, not_true_eq_false, not_false_eq_true, nI_ltI' (show x < 2 ^ 31 by omega) (show x < 2 ^ 31 by omega), Nat.lt_irrefl, zk_wS, K37 S, c_refused S2]
    | succ m ih =>
      intro x hx
      have hlt : x < n := by omega
      have e1 : zwI (zwS h 62 (60 * j) x (fun _ => 0)) 62 (60 * j + x) 0 = zwS h 62 (60 * j) (x + 1) (fun _ => 0) := zwS_succ (f := fun _ => 0)
      rw [u_X11_sheet_65]
      simp +decide only [u_X11_sheet_0, u_X11_sheet_1, u_X11_sheet_4, u_X11_sheet_7, u_X11_sheet_8, u_X11_sheet_9, u_X11_sheet_12, u_X11_sheet_13, u_X11_sheet_14, u_X11_sheet_15, u_X11_sheet_16, u_X11_sheet_19, u_X11_sheet_22, u_X11_sheet_25, u_X11_sheet_26, u_X11_sheet_28, u_X11_sheet_31, u_X11_sheet_32, u_X11_sheet_34, u_X11_sheet_37, u_X11_sheet_38, u_X11_sheet_39, u_X11_sheet_42, u_X11_sheet_43, u_X11_sheet_44, u_X11_sheet_47, u_X11_sheet_48, u_X11_sheet_49, u_X11_sheet_52, u_X11_sheet_53, u_X11_sheet_54, u_X11_sheet_55, u_X11_sheet_56, u_X11_sheet_59, u_X11_sheet_60, u_X11_sheet_61, u_X11_sheet_62, u_X11_sheet_63, u_X11_sheet_67, u_X11_sheet_68, u_X11_sheet_71, u_X11_sheet_72, u_X11_sheet_75, u_X11_sheet_77, u_X11_sheet_78, u_X11_sheet_79, u_X11_sheet_81, u_X11_sheet_82, u_X11_sheet_83, u_X11_sheet_84, u_X11_sheet_87, u_X11_sheet_90, u_X11_sheet_91, u_X11_sheet_92, u_X11_sheet_95, zcl_i, zcl_r, zcl_l, zcl_0, Option.bind_some, Option.bind_none, Option.toList_some, Option.toList_none, List.cons_append, List.nil_append, zk_wI, zk_wR, zk_wC, zr_wI, zr_wC, zi_wR, zn_wI, zn_wR, zn_wC, if_true, if_false, true_or, or_true, or_false, false_or, true_and, and_true, ↓reduceIte, reduceCtorEq, Nat.reduceEqDiff, Nat.reduceLT, Nat.reduceLeDiff, Nat.reduceAdd, Nat.reduceSub, Nat.reduceMul, Int32.reduceLT, Int32.reduceLE, Int32.reduceAdd, Int32.reduceMul, Int32.reduceSub, Int32.reduceToNatClampNeg, and_self, or_self, and_false, false_and, not_true_eq_false, not_false_eq_true, nI_ltI' (show x < 2 ^ 31 by omega) (show n < 2 ^ 31 by omega), hlt, zk_wS, zr_wS, K37 S, R37_40 S, K62 S, hm, nI_add, zix_nI (show 60 * j + x < 240 by omega) (by decide), nI_1, e1]
      exact ih (x + 1) (by omega)
  have := key n 0 (by omega)
  rw [zwS_0] at this
  exact this
theorem st_sheet {h : zH} (I : Inv h) {k la n : Int32} : Stq 69 129 [.inl k, .inl la, .inl n] h := by
  have I0 := I
  obtain ⟨S, h1, nn, T, K, h4, h5, h6⟩ := I
  have S1 : ∀ v, St (zwI h 1 6 v) := fun _ => S
  have fin : ∀ v, Inv (zwI (zwI h 1 6 v) 37 0 v) := fun v => Inv_fault I0
  rcases zrng k (N := 4) (by decide) with hf | ⟨j, hj, rfl⟩
  · refine ⟨.inl (-1), zwI h 1 6 0, zwI (zwI h 1 6 0) 37 0 0, ?_, ?_, fin 0, Nat.le_add_right _ _, Nat.le_add_right _ _⟩
    · rw [e_X10_sheet]
      simp +decide only [u_X10_sheet_0, u_X10_sheet_1, u_X10_sheet_2, u_X10_sheet_5, u_X10_sheet_6, u_X10_sheet_7, u_X10_sheet_10, u_X10_sheet_12, u_X10_sheet_14, u_X10_sheet_17, u_X10_sheet_18, u_X10_sheet_19, u_X10_sheet_20, u_X10_sheet_21, u_X10_sheet_22, u_X10_sheet_25, u_X10_sheet_28, u_X10_sheet_29, u_X10_sheet_31, u_X10_sheet_34, u_X10_sheet_36, u_X10_sheet_37, u_X10_sheet_38, u_X10_sheet_41, u_X10_sheet_42, u_X10_sheet_43, u_X10_sheet_46, u_X10_sheet_47, u_X10_sheet_49, u_X10_sheet_50, u_X10_sheet_51, u_X10_sheet_54, u_X10_sheet_55, zcl_i, zcl_r, zcl_l, zcl_0, Option.bind_some, Option.bind_none, Option.toList_some, Option.toList_none, List.cons_append, List.nil_append, zk_wI, zk_wR, zk_wC, zr_wI, zr_wC, zi_wR, zn_wI, zn_wR, zn_wC, if_true, if_false, true_or, or_true, or_false, false_or, true_and, and_true, ↓reduceIte, reduceCtorEq, Nat.reduceEqDiff, Nat.reduceLT, Nat.reduceLeDiff, Nat.reduceAdd, Nat.reduceSub, Nat.reduceMul, Int32.reduceLT, Int32.reduceLE, Int32.reduceAdd, Int32.reduceMul, Int32.reduceSub, Int32.reduceToNatClampNeg, and_self, or_self, and_false, false_and, not_true_eq_false, not_false_eq_true, K1 S, c_sheetNo hf]
    · rw [e_X11_sheet]
      simp +decide only [u_X11_sheet_0, u_X11_sheet_1, u_X11_sheet_4, u_X11_sheet_7, u_X11_sheet_8, u_X11_sheet_9, u_X11_sheet_12, u_X11_sheet_13, u_X11_sheet_14, u_X11_sheet_15, u_X11_sheet_16, u_X11_sheet_19, u_X11_sheet_22, u_X11_sheet_25, u_X11_sheet_26, u_X11_sheet_28, u_X11_sheet_31, u_X11_sheet_32, u_X11_sheet_34, u_X11_sheet_37, u_X11_sheet_38, u_X11_sheet_39, u_X11_sheet_42, u_X11_sheet_43, u_X11_sheet_44, u_X11_sheet_47, u_X11_sheet_48, u_X11_sheet_49, u_X11_sheet_52, u_X11_sheet_53, u_X11_sheet_54, u_X11_sheet_55, u_X11_sheet_56, u_X11_sheet_59, u_X11_sheet_60, u_X11_sheet_61, u_X11_sheet_62, u_X11_sheet_63, u_X11_sheet_65, u_X11_sheet_67, u_X11_sheet_68, u_X11_sheet_71, u_X11_sheet_72, u_X11_sheet_75, u_X11_sheet_77, u_X11_sheet_78, u_X11_sheet_79, u_X11_sheet_81, u_X11_sheet_82, u_X11_sheet_83, u_X11_sheet_84, u_X11_sheet_87, u_X11_sheet_90, u_X11_sheet_91, u_X11_sheet_92, u_X11_sheet_95, zcl_i, zcl_r, zcl_l, zcl_0, Option.bind_some, Option.bind_none, Option.toList_some, Option.toList_none, List.cons_append, List.nil_append, zk_wI, zk_wR, zk_wC, zr_wI, zr_wC, zi_wR, zn_wI, zn_wR, zn_wC, if_true, if_false, true_or, or_true, or_false, false_or, true_and, and_true, ↓reduceIte, reduceCtorEq, Nat.reduceEqDiff, Nat.reduceLT, Nat.reduceLeDiff, Nat.reduceAdd, Nat.reduceSub, Nat.reduceMul, Int32.reduceLT, Int32.reduceLE, Int32.reduceAdd, Int32.reduceMul, Int32.reduceSub, Int32.reduceToNatClampNeg, and_self, or_self, and_false, false_and, not_true_eq_false, not_false_eq_true, c_noSheetN hf, K37 S, c_refused (S1 0)]
  · have A : ∀ w, isSh (zwI h 1 6 w) (29 + 2 * j) (30 + 2 * j) := fun w => isSh_at (S1 w) hj
    have A0 := isSh_at S hj
    rcases zrng la (N := 3) (by decide) with hl | ⟨l, hl, rfl⟩
    · refine ⟨.inl (-2), zwI h 1 6 0, zwI (zwI h 1 6 0) 37 0 0, ?_, ?_, fin 0, Nat.le_add_right _ _, Nat.le_add_right _ _⟩
      · rw [e_X10_sheet]
        simp +decide only [u_X10_sheet_0, u_X10_sheet_1, u_X10_sheet_2, u_X10_sheet_5, u_X10_sheet_6, u_X10_sheet_7, u_X10_sheet_10, u_X10_sheet_12, u_X10_sheet_14, u_X10_sheet_17, u_X10_sheet_18, u_X10_sheet_19, u_X10_sheet_20, u_X10_sheet_21, u_X10_sheet_22, u_X10_sheet_25, u_X10_sheet_28, u_X10_sheet_29, u_X10_sheet_31, u_X10_sheet_34, u_X10_sheet_36, u_X10_sheet_37, u_X10_sheet_38, u_X10_sheet_41, u_X10_sheet_42, u_X10_sheet_43, u_X10_sheet_46, u_X10_sheet_47, u_X10_sheet_49, u_X10_sheet_50, u_X10_sheet_51, u_X10_sheet_54, u_X10_sheet_55, zcl_i, zcl_r, zcl_l, zcl_0, Option.bind_some, Option.bind_none, Option.toList_some, Option.toList_none, List.cons_append, List.nil_append, zk_wI, zk_wR, zk_wC, zr_wI, zr_wC, zi_wR, zn_wI, zn_wR, zn_wC, if_true, if_false, true_or, or_true, or_false, false_or, true_and, and_true, ↓reduceIte, reduceCtorEq, Nat.reduceEqDiff, Nat.reduceLT, Nat.reduceLeDiff, Nat.reduceAdd, Nat.reduceSub, Nat.reduceMul, Int32.reduceLT, Int32.reduceLE, Int32.reduceAdd, Int32.reduceMul, Int32.reduceSub, Int32.reduceToNatClampNeg, and_self, or_self, and_false, false_and, not_true_eq_false, not_false_eq_true, K1 S, c_sheetAt (S1 0) hj, c_isWithin, zle2, hl]
      · rw [e_X11_sheet]
        simp +decide only [u_X11_sheet_0, u_X11_sheet_1, u_X11_sheet_4, u_X11_sheet_7, u_X11_sheet_8, u_X11_sheet_9, u_X11_sheet_12, u_X11_sheet_13, u_X11_sheet_14, u_X11_sheet_15, u_X11_sheet_16, u_X11_sheet_19, u_X11_sheet_22, u_X11_sheet_25, u_X11_sheet_26, u_X11_sheet_28, u_X11_sheet_31, u_X11_sheet_32, u_X11_sheet_34, u_X11_sheet_37, u_X11_sheet_38, u_X11_sheet_39, u_X11_sheet_42, u_X11_sheet_43, u_X11_sheet_44, u_X11_sheet_47, u_X11_sheet_48, u_X11_sheet_49, u_X11_sheet_52, u_X11_sheet_53, u_X11_sheet_54, u_X11_sheet_55, u_X11_sheet_56, u_X11_sheet_59, u_X11_sheet_60, u_X11_sheet_61, u_X11_sheet_62, u_X11_sheet_63, u_X11_sheet_65, u_X11_sheet_67, u_X11_sheet_68, u_X11_sheet_71, u_X11_sheet_72, u_X11_sheet_75, u_X11_sheet_77, u_X11_sheet_78, u_X11_sheet_79, u_X11_sheet_81, u_X11_sheet_82, u_X11_sheet_83, u_X11_sheet_84, u_X11_sheet_87, u_X11_sheet_90, u_X11_sheet_91, u_X11_sheet_92, u_X11_sheet_95, zcl_i, zcl_r, zcl_l, zcl_0, Option.bind_some, Option.bind_none, Option.toList_some, Option.toList_none, List.cons_append, List.nil_append, zk_wI, zk_wR, zk_wC, zr_wI, zr_wC, zi_wR, zn_wI, zn_wR, zn_wC, if_true, if_false, true_or, or_true, or_false, false_or, true_and, and_true, ↓reduceIte, reduceCtorEq, Nat.reduceEqDiff, Nat.reduceLT, Nat.reduceLeDiff, Nat.reduceAdd, Nat.reduceSub, Nat.reduceMul, Int32.reduceLT, Int32.reduceLE, Int32.reduceAdd, Int32.reduceMul, Int32.reduceSub, Int32.reduceToNatClampNeg, and_self, or_self, and_false, false_and, not_true_eq_false, not_false_eq_true, c_noSheetY hj, K37 S, c_refused (S1 0), c_in, l64l_0, l64r_2, zle2, hl]
    · have hr2 := nI_rng hl (by decide : 3 < 2 ^ 31)
      by_cases g1 : 60 < n
      · refine ⟨.inl (-2), zwI h 1 6 0, zwI (zwI h 1 6 0) 37 0 0, ?_, ?_, fin 0, Nat.le_add_right _ _, Nat.le_add_right _ _⟩
        · rw [e_X10_sheet]
          simp +decide only [u_X10_sheet_0, u_X10_sheet_1, u_X10_sheet_2, u_X10_sheet_5, u_X10_sheet_6, u_X10_sheet_7, u_X10_sheet_10, u_X10_sheet_12, u_X10_sheet_14, u_X10_sheet_17, u_X10_sheet_18, u_X10_sheet_19, u_X10_sheet_20, u_X10_sheet_21, u_X10_sheet_22, u_X10_sheet_25, u_X10_sheet_28, u_X10_sheet_29, u_X10_sheet_31, u_X10_sheet_34, u_X10_sheet_36, u_X10_sheet_37, u_X10_sheet_38, u_X10_sheet_41, u_X10_sheet_42, u_X10_sheet_43, u_X10_sheet_46, u_X10_sheet_47, u_X10_sheet_49, u_X10_sheet_50, u_X10_sheet_51, u_X10_sheet_54, u_X10_sheet_55, zcl_i, zcl_r, zcl_l, zcl_0, Option.bind_some, Option.bind_none, Option.toList_some, Option.toList_none, List.cons_append, List.nil_append, zk_wI, zk_wR, zk_wC, zr_wI, zr_wC, zi_wR, zn_wI, zn_wR, zn_wC, if_true, if_false, true_or, or_true, or_false, false_or, true_and, and_true, ↓reduceIte, reduceCtorEq, Nat.reduceEqDiff, Nat.reduceLT, Nat.reduceLeDiff, Nat.reduceAdd, Nat.reduceSub, Nat.reduceMul, Int32.reduceLT, Int32.reduceLE, Int32.reduceAdd, Int32.reduceMul, Int32.reduceSub, Int32.reduceToNatClampNeg, and_self, or_self, and_false, false_and, not_true_eq_false, not_false_eq_true, K1 S, c_sheetAt (S1 0) hj, c_isWithin, zle2, hr2, g1]
        · rw [e_X11_sheet]
          simp +decide only [u_X11_sheet_0, u_X11_sheet_1, u_X11_sheet_4, u_X11_sheet_7, u_X11_sheet_8, u_X11_sheet_9, u_X11_sheet_12, u_X11_sheet_13, u_X11_sheet_14, u_X11_sheet_15, u_X11_sheet_16, u_X11_sheet_19, u_X11_sheet_22, u_X11_sheet_25, u_X11_sheet_26, u_X11_sheet_28, u_X11_sheet_31, u_X11_sheet_32, u_X11_sheet_34, u_X11_sheet_37, u_X11_sheet_38, u_X11_sheet_39, u_X11_sheet_42, u_X11_sheet_43, u_X11_sheet_44, u_X11_sheet_47, u_X11_sheet_48, u_X11_sheet_49, u_X11_sheet_52, u_X11_sheet_53, u_X11_sheet_54, u_X11_sheet_55, u_X11_sheet_56, u_X11_sheet_59, u_X11_sheet_60, u_X11_sheet_61, u_X11_sheet_62, u_X11_sheet_63, u_X11_sheet_65, u_X11_sheet_67, u_X11_sheet_68, u_X11_sheet_71, u_X11_sheet_72, u_X11_sheet_75, u_X11_sheet_77, u_X11_sheet_78, u_X11_sheet_79, u_X11_sheet_81, u_X11_sheet_82, u_X11_sheet_83, u_X11_sheet_84, u_X11_sheet_87, u_X11_sheet_90, u_X11_sheet_91, u_X11_sheet_92, u_X11_sheet_95, zcl_i, zcl_r, zcl_l, zcl_0, Option.bind_some, Option.bind_none, Option.toList_some, Option.toList_none, List.cons_append, List.nil_append, zk_wI, zk_wR, zk_wC, zr_wI, zr_wC, zi_wR, zn_wI, zn_wR, zn_wC, if_true, if_false, true_or, or_true, or_false, false_or, true_and, and_true, ↓reduceIte, reduceCtorEq, Nat.reduceEqDiff, Nat.reduceLT, Nat.reduceLeDiff, Nat.reduceAdd, Nat.reduceSub, Nat.reduceMul, Int32.reduceLT, Int32.reduceLE, Int32.reduceAdd, Int32.reduceMul, Int32.reduceSub, Int32.reduceToNatClampNeg, and_self, or_self, and_false, false_and, not_true_eq_false, not_false_eq_true, c_noSheetY hj, K37 S, c_refused (S1 0), c_in, l64l_0, l64r_2, zle2, hr2, g1]
      · by_cases g2 : n < 0
        · refine ⟨.inl (-14), zwI h 1 6 4, zwI (zwI h 1 6 4) 37 0 4, ?_, ?_, fin 4, Nat.le_add_right _ _, Nat.le_add_right _ _⟩
          · rw [e_X10_sheet]
            simp +decide only [u_X10_sheet_0, u_X10_sheet_1, u_X10_sheet_2, u_X10_sheet_5, u_X10_sheet_6, u_X10_sheet_7, u_X10_sheet_10, u_X10_sheet_12, u_X10_sheet_14, u_X10_sheet_17, u_X10_sheet_18, u_X10_sheet_19, u_X10_sheet_20, u_X10_sheet_21, u_X10_sheet_22, u_X10_sheet_25, u_X10_sheet_28, u_X10_sheet_29, u_X10_sheet_31, u_X10_sheet_34, u_X10_sheet_36, u_X10_sheet_37, u_X10_sheet_38, u_X10_sheet_41, u_X10_sheet_42, u_X10_sheet_43, u_X10_sheet_46, u_X10_sheet_47, u_X10_sheet_49, u_X10_sheet_50, u_X10_sheet_51, u_X10_sheet_54, u_X10_sheet_55, zcl_i, zcl_r, zcl_l, zcl_0, Option.bind_some, Option.bind_none, Option.toList_some, Option.toList_none, List.cons_append, List.nil_append, zk_wI, zk_wR, zk_wC, zr_wI, zr_wC, zi_wR, zn_wI, zn_wR, zn_wC, if_true, if_false, true_or, or_true, or_false, false_or, true_and, and_true, ↓reduceIte, reduceCtorEq, Nat.reduceEqDiff, Nat.reduceLT, Nat.reduceLeDiff, Nat.reduceAdd, Nat.reduceSub, Nat.reduceMul, Int32.reduceLT, Int32.reduceLE, Int32.reduceAdd, Int32.reduceMul, Int32.reduceSub, Int32.reduceToNatClampNeg, and_self, or_self, and_false, false_and, not_true_eq_false, not_false_eq_true, K1 S, c_sheetAt (S1 0) hj, c_isWithin, zle2, hr2, g1, g2, c_failing (S1 0), zwI6]
          · rw [e_X11_sheet]
            simp +decide only [u_X11_sheet_0, u_X11_sheet_1, u_X11_sheet_4, u_X11_sheet_7, u_X11_sheet_8, u_X11_sheet_9, u_X11_sheet_12, u_X11_sheet_13, u_X11_sheet_14, u_X11_sheet_15, u_X11_sheet_16, u_X11_sheet_19, u_X11_sheet_22, u_X11_sheet_25, u_X11_sheet_26, u_X11_sheet_28, u_X11_sheet_31, u_X11_sheet_32, u_X11_sheet_34, u_X11_sheet_37, u_X11_sheet_38, u_X11_sheet_39, u_X11_sheet_42, u_X11_sheet_43, u_X11_sheet_44, u_X11_sheet_47, u_X11_sheet_48, u_X11_sheet_49, u_X11_sheet_52, u_X11_sheet_53, u_X11_sheet_54, u_X11_sheet_55, u_X11_sheet_56, u_X11_sheet_59, u_X11_sheet_60, u_X11_sheet_61, u_X11_sheet_62, u_X11_sheet_63, u_X11_sheet_65, u_X11_sheet_67, u_X11_sheet_68, u_X11_sheet_71, u_X11_sheet_72, u_X11_sheet_75, u_X11_sheet_77, u_X11_sheet_78, u_X11_sheet_79, u_X11_sheet_81, u_X11_sheet_82, u_X11_sheet_83, u_X11_sheet_84, u_X11_sheet_87, u_X11_sheet_90, u_X11_sheet_91, u_X11_sheet_92, u_X11_sheet_95, zcl_i, zcl_r, zcl_l, zcl_0, Option.bind_some, Option.bind_none, Option.toList_some, Option.toList_none, List.cons_append, List.nil_append, zk_wI, zk_wR, zk_wC, zr_wI, zr_wC, zi_wR, zn_wI, zn_wR, zn_wC, if_true, if_false, true_or, or_true, or_false, false_or, true_and, and_true, ↓reduceIte, reduceCtorEq, Nat.reduceEqDiff, Nat.reduceLT, Nat.reduceLeDiff, Nat.reduceAdd, Nat.reduceSub, Nat.reduceMul, Int32.reduceLT, Int32.reduceLE, Int32.reduceAdd, Int32.reduceMul, Int32.reduceSub, Int32.reduceToNatClampNeg, and_self, or_self, and_false, false_and, not_true_eq_false, not_false_eq_true, c_noSheetY hj, K37 S, c_failed (S1 4), c_in, l64l_0, l64r_2, zle2, hr2, g1, g2]
        · obtain ⟨m, hm, rfl⟩ : ∃ m, m < 61 ∧ n = nI m := by
            rcases zrng n (N := 61) (by decide) with hz | hz
            · exfalso
              apply hz
              rw [Int32.lt_iff_toInt_lt] at g1 g2
              have z0 : (0 : Int32).toInt = 0 := by decide
              have z60 : (60 : Int32).toInt = 60 := by decide
              rw [z60] at g1
              rw [z0] at g2
              omega
            · exact hz
          have hm' : m ≤ 60 := by omega
          have S3 : St (zwI (zwI (zwI (zwI (zwS (zwI h 1 6 0) (30 + 2 * j) 0 60 fun _ => 0) (29 + 2 * j) 0 (nI l)) (29 + 2 * j) 1 (nI m)) 60 j (nI m)) 61 j (nI l)) := S
          refine ⟨.inl 1, zwI (zwI (zwS (zwI h 1 6 0) (30 + 2 * j) 0 60 fun _ => 0) (29 + 2 * j) 0 (nI l)) (29 + 2 * j) 1 (nI m), zwI (zwS (zwI (zwI (zwI (zwI (zwS (zwI h 1 6 0) (30 + 2 * j) 0 60 fun _ => 0) (29 + 2 * j) 0 (nI l)) (29 + 2 * j) 1 (nI m)) 60 j (nI m)) 61 j (nI l)) 62 (60 * j) m (fun _ => 0)) 37 0 0, ?_, ?_, ?_, Nat.le_add_right _ _, Nat.le_add_right _ _⟩
          · rw [e_X10_sheet]
            simp +decide only [u_X10_sheet_0, u_X10_sheet_1, u_X10_sheet_2, u_X10_sheet_5, u_X10_sheet_6, u_X10_sheet_7, u_X10_sheet_10, u_X10_sheet_12, u_X10_sheet_14, u_X10_sheet_17, u_X10_sheet_18, u_X10_sheet_19, u_X10_sheet_20, u_X10_sheet_21, u_X10_sheet_22, u_X10_sheet_25, u_X10_sheet_28, u_X10_sheet_29, u_X10_sheet_31, u_X10_sheet_34, u_X10_sheet_36, u_X10_sheet_37, u_X10_sheet_38, u_X10_sheet_41, u_X10_sheet_42, u_X10_sheet_43, u_X10_sheet_46, u_X10_sheet_47, u_X10_sheet_49, u_X10_sheet_50, u_X10_sheet_51, u_X10_sheet_54, u_X10_sheet_55, zcl_i, zcl_r, zcl_l, zcl_0, Option.bind_some, Option.bind_none, Option.toList_some, Option.toList_none, List.cons_append, List.nil_append, zk_wI, zk_wR, zk_wC, zr_wI, zr_wC, zi_wR, zn_wI, zn_wR, zn_wC, if_true, if_false, true_or, or_true, or_false, false_or, true_and, and_true, ↓reduceIte, reduceCtorEq, Nat.reduceEqDiff, Nat.reduceLT, Nat.reduceLeDiff, Nat.reduceAdd, Nat.reduceSub, Nat.reduceMul, Int32.reduceLT, Int32.reduceLE, Int32.reduceAdd, Int32.reduceMul, Int32.reduceSub, Int32.reduceToNatClampNeg, and_self, or_self, and_false, false_and, not_true_eq_false, not_false_eq_true, K1 S, c_sheetAt (S1 0) hj, c_isWithin, zle2, hr2, g1, g2, A0.1, c_renew (A 0) hm']
          · rw [e_X11_sheet]
            simp +decide only [u_X11_sheet_0, u_X11_sheet_1, u_X11_sheet_4, u_X11_sheet_7, u_X11_sheet_8, u_X11_sheet_9, u_X11_sheet_12, u_X11_sheet_13, u_X11_sheet_14, u_X11_sheet_15, u_X11_sheet_16, u_X11_sheet_19, u_X11_sheet_22, u_X11_sheet_25, u_X11_sheet_26, u_X11_sheet_28, u_X11_sheet_31, u_X11_sheet_32, u_X11_sheet_34, u_X11_sheet_37, u_X11_sheet_38, u_X11_sheet_39, u_X11_sheet_42, u_X11_sheet_43, u_X11_sheet_44, u_X11_sheet_47, u_X11_sheet_48, u_X11_sheet_49, u_X11_sheet_52, u_X11_sheet_53, u_X11_sheet_54, u_X11_sheet_55, u_X11_sheet_56, u_X11_sheet_59, u_X11_sheet_60, u_X11_sheet_61, u_X11_sheet_62, u_X11_sheet_63, u_X11_sheet_67, u_X11_sheet_68, u_X11_sheet_71, u_X11_sheet_72, u_X11_sheet_75, u_X11_sheet_77, u_X11_sheet_78, u_X11_sheet_79, u_X11_sheet_81, u_X11_sheet_82, u_X11_sheet_83, u_X11_sheet_84, u_X11_sheet_87, u_X11_sheet_90, u_X11_sheet_91, u_X11_sheet_92, u_X11_sheet_95, zcl_i, zcl_r, zcl_l, zcl_0, Option.bind_some, Option.bind_none, Option.toList_some, Option.toList_none, List.cons_append, List.nil_append, zk_wI, zk_wR, zk_wC, zr_wI, zr_wC, zi_wR, zn_wI, zn_wR, zn_wC, if_true, if_false, true_or, or_true, or_false, false_or, true_and, and_true, ↓reduceIte, reduceCtorEq, Nat.reduceEqDiff, Nat.reduceLT, Nat.reduceLeDiff, Nat.reduceAdd, Nat.reduceSub, Nat.reduceMul, Int32.reduceLT, Int32.reduceLE, Int32.reduceAdd, Int32.reduceMul, Int32.reduceSub, Int32.reduceToNatClampNeg, and_self, or_self, and_false, false_and, not_true_eq_false, not_false_eq_true, c_noSheetY hj, zk_wS, zr_wS, K37 S, R37_38 S, R37_39 S, K60 S, K61 S, c_in, l64l_0, l64r_2, zle2, hr2, g1, g2, zix_nI hj (by decide)]
            exact l_sheet S3 hj hm'
          · refine Inv_sh (fin 0) rfl (fun _ => rfl) (fun _ _ => rfl) (fun a y ha hb => ?_) ?_
            · rw [zi_wI, zi_wS, zi_wI, zi_wI, zi_wI, zi_wI, zi_wS, zi_wI (h := zwI h 1 6 0)]
              rw [if_neg (c := a = 62 ∧ _) (by omega), if_neg (c := a = 61 ∧ _) (by omega), if_neg (c := a = 60 ∧ _) (by omega), if_neg (c := a = 29 + 2 * j ∧ y = 1) (by omega), if_neg (c := a = 29 + 2 * j ∧ y = 0) (by omega), if_neg (c := a = 30 + 2 * j ∧ _) (by omega)]
            · intro k hk
              by_cases e : k = j
              · subst e
                refine Or.inr ⟨m, l, hm', by omega, ?_, ?_, ?_, ?_, fun i hi => ?_⟩
                · rw [zi_wI, if_neg (by omega), zi_wS, if_neg (by omega), zi_wI, if_neg (by omega), zi_wI, if_pos ⟨rfl, rfl⟩]
                · rw [zi_wI, if_neg (by omega), zi_wS, if_neg (by omega), zi_wI, if_pos ⟨rfl, rfl⟩]
                · rw [zi_wI, if_neg (by omega), zi_wS, if_neg (by omega), zi_wI, if_neg (by omega), zi_wI, if_neg (by omega), zi_wI, if_neg (by omega), zi_wI, if_pos ⟨rfl, rfl⟩]
                · rw [zi_wI, if_neg (by omega), zi_wS, if_neg (by omega), zi_wI, if_neg (by omega), zi_wI, if_neg (by omega), zi_wI, if_pos ⟨rfl, rfl⟩]
                · rw [zi_wI, if_neg (by omega), zi_wS, if_neg (by omega), zi_wI, if_neg (by omega), zi_wI, if_neg (by omega), zi_wI, if_neg (by omega), zi_wI, if_neg (by omega), zi_wS, if_pos (by omega), zi_wI, if_neg (by omega), zi_wS, if_pos (by omega)]
              · have q : ∀ x y, ¬ (x = 29 + 2 * j) → ¬ (x = 30 + 2 * j) → ¬ (x = 60 ∧ y = j) → ¬ (x = 61 ∧ y = j) → ¬ (x = 62 ∧ 60 * j ≤ y ∧ y < 60 * j + m) → ¬ (x = 1 ∧ y = 6) → ¬ (x = 37 ∧ y = 0) → zi (zwI (zwS (zwI (zwI (zwI (zwI (zwS (zwI h 1 6 0) (30 + 2 * j) 0 60 fun _ => 0) (29 + 2 * j) 0 (nI l)) (29 + 2 * j) 1 (nI m)) 60 j (nI m)) 61 j (nI l)) 62 (60 * j) m (fun _ => 0)) 37 0 0) x y = zi h x y := fun x y h1 h2 h3 h4 h5 h6 h7 => by
                  rw [zi_wI, if_neg h7, zi_wS, if_neg h5, zi_wI, if_neg h4, zi_wI, if_neg h3, zi_wI, if_neg (by omega), zi_wI, if_neg (by omega), zi_wS, if_neg (by omega), zi_wI, if_neg h6]
                rw [q 60 k (by omega) (by omega) (by omega) (by omega) (by omega) (by omega) (by omega), q 61 k (by omega) (by omega) (by omega) (by omega) (by omega) (by omega) (by omega), q (29 + 2 * k) 0 (by omega) (by omega) (by omega) (by omega) (by omega) (by omega) (by omega), q (29 + 2 * k) 1 (by omega) (by omega) (by omega) (by omega) (by omega) (by omega) (by omega)]
                rcases h6 k hk with h1 | ⟨c, l, h1, h2, h3, h4, h5, h6, h7⟩
                · exact Or.inl h1
                · refine Or.inr ⟨c, l, h1, h2, h3, h4, h5, h6, fun i hi => ?_⟩
                  rw [q (30 + 2 * k) i (by omega) (by omega) (by omega) (by omega) (by omega) (by omega) (by omega), q 62 (60 * k + i) (by omega) (by omega) (by omega) (by omega) (by omega) (by omega) (by omega)]
                  exact h7 i hi
