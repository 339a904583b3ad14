/-! sheets -/
/-- cell a is a sheet whose cells lie in c -/
def isSh (h : zH) (a c : Nat) : Prop := zk h a = (7, 0) ∧ zr h a 2 = some c ∧ zk h c = (12, 60)
theorem isSh_at {h : zH} (S : St h) {j : Nat} (hj : j < 4) : isSh h (29 + 2 * j) (30 + 2 * j) := by
  rcases (show j = 0 ∨ j = 1 ∨ j = 2 ∨ j = 3 by omega) with rfl | rfl | rfl | rfl
  · exact ⟨K29 S, R29_2 S, K30 S⟩
  · exact ⟨K31 S, R31_2 S, K32 S⟩
  · exact ⟨K33 S, R33_2 S, K34 S⟩
  · exact ⟨K35 S, R35_2 S, K36 S⟩
theorem c_isNothing {d : Nat} {h : zH} {a c : Nat} (A : isSh h a c) : zcall (zP zM) (d + 1) 33 [.inr (.inr (some a))] h = some (some (.inl (if zi h a 0 = -9 then 1 else 0)), h) := by
  rw [e_X7_isNothing]
  simp +decide only [u_X7_isNothing_0, u_X7_isNothing_1, u_X7_isNothing_4, u_X7_isNothing_6, u_X7_isNothing_9, u_X7_isNothing_10, u_X7_isNothing_13, u_X7_isNothing_14, zcl_i, zcl_r, zcl_l, zcl_0, Option.bind_some, Option.bind_none, Option.toList_some, Option.toList_none, List.cons_append, List.nil_append, zk_wI, zk_wR, zk_wC, zr_wI, zr_wC, zi_wR, zn_wI, zn_wR, zn_wC, if_true, if_false, true_or, or_true, or_false, false_or, true_and, and_true, ↓reduceIte, reduceCtorEq, Nat.reduceEqDiff, Nat.reduceLT, Nat.reduceLeDiff, Nat.reduceAdd, Nat.reduceSub, Nat.reduceMul, Int32.reduceLT, Int32.reduceLE, Int32.reduceAdd, Int32.reduceMul, Int32.reduceSub, Int32.reduceToNatClampNeg, and_self, or_self, and_false, false_and, not_true_eq_false, not_false_eq_true, A.1]
  split <;> rfl
theorem c_hasCell {d : Nat} {h : zH} {a c : Nat} (A : isSh h a c) {i : Int32} : zcall (zP zM) (d + 1) 36 [.inr (.inr (some a)), .inl i] h = some (some (.inl (if ¬ i < 0 ∧ i < zi h a 1 then 1 else 0)), h) := by
  rw [e_X7_hasCell]
  simp +decide only [u_X7_hasCell_0, u_X7_hasCell_1, u_X7_hasCell_4, u_X7_hasCell_5, u_X7_hasCell_6, u_X7_hasCell_9, u_X7_hasCell_12, u_X7_hasCell_13, u_X7_hasCell_16, u_X7_hasCell_17, zcl_i, zcl_r, zcl_l, zcl_0, Option.bind_some, Option.bind_none, Option.toList_some, Option.toList_none, List.cons_append, List.nil_append, zk_wI, zk_wR, zk_wC, zr_wI, zr_wC, zi_wR, zn_wI, zn_wR, zn_wC, if_true, if_false, true_or, or_true, or_false, false_or, true_and, and_true, ↓reduceIte, reduceCtorEq, Nat.reduceEqDiff, Nat.reduceLT, Nat.reduceLeDiff, Nat.reduceAdd, Nat.reduceSub, Nat.reduceMul, Int32.reduceLT, Int32.reduceLE, Int32.reduceAdd, Int32.reduceMul, Int32.reduceSub, Int32.reduceToNatClampNeg, and_self, or_self, and_false, false_and, not_true_eq_false, not_false_eq_true, A.1]
  by_cases h1 : i < 0 <;> by_cases h2 : i < zi h a 1 <;> simp [h1, h2]
theorem c_hasCells {d : Nat} {h : zH} {a c : Nat} (A : isSh h a c) {i n : Int32} : zcall (zP zM) (d + 1) 37 [.inr (.inr (some a)), .inl i, .inl n] h = some (some (.inl (if ¬ n < 0 ∧ ¬ i < 0 ∧ ¬ zi h a 1 < i ∧ ¬ zi h a 1 - i < n then 1 else 0)), h) := by
  rw [e_X7_hasCells]
  simp +decide only [u_X7_hasCells_0, u_X7_hasCells_1, u_X7_hasCells_4, u_X7_hasCells_5, u_X7_hasCells_8, u_X7_hasCells_9, u_X7_hasCells_10, u_X7_hasCells_13, u_X7_hasCells_16, u_X7_hasCells_17, u_X7_hasCells_18, u_X7_hasCells_21, u_X7_hasCells_22, u_X7_hasCells_23, u_X7_hasCells_26, u_X7_hasCells_27, u_X7_hasCells_30, u_X7_hasCells_31, zcl_i, zcl_r, zcl_l, zcl_0, Option.bind_some, Option.bind_none, Option.toList_some, Option.toList_none, List.cons_append, List.nil_append, zk_wI, zk_wR, zk_wC, zr_wI, zr_wC, zi_wR, zn_wI, zn_wR, zn_wC, if_true, if_false, true_or, or_true, or_false, false_or, true_and, and_true, ↓reduceIte, reduceCtorEq, Nat.reduceEqDiff, Nat.reduceLT, Nat.reduceLeDiff, Nat.reduceAdd, Nat.reduceSub, Nat.reduceMul, Int32.reduceLT, Int32.reduceLE, Int32.reduceAdd, Int32.reduceMul, Int32.reduceSub, Int32.reduceToNatClampNeg, and_self, or_self, and_false, false_and, not_true_eq_false, not_false_eq_true, A.1]
  by_cases h0 : n < 0 <;> by_cases h1 : i < 0 <;> by_cases h2 : zi h a 1 < i <;> by_cases h3 : zi h a 1 - i < n <;> simp [h0, h1, h2, h3]
theorem c_faultOfLane {d : Nat} {h : zH} {a c : Nat} (A : isSh h a c) {l : Int32} : zcall (zP zM) (d + 2) 38 [.inr (.inr (some a)), .inl l] h = some (some (.inl (if zi h a 0 = -9 then 1 else if zi h a 0 = l then 0 else 2)), h) := by
  rw [e_X7_faultOfLane]
  simp +decide only [u_X7_faultOfLane_0, u_X7_faultOfLane_1, u_X7_faultOfLane_4, u_X7_faultOfLane_7, u_X7_faultOfLane_8, u_X7_faultOfLane_9, u_X7_faultOfLane_10, u_X7_faultOfLane_13, u_X7_faultOfLane_14, u_X7_faultOfLane_17, u_X7_faultOfLane_18, u_X7_faultOfLane_21, u_X7_faultOfLane_22, zcl_i, zcl_r, zcl_l, zcl_0, Option.bind_some, Option.bind_none, Option.toList_some, Option.toList_none, List.cons_append, List.nil_append, zk_wI, zk_wR, zk_wC, zr_wI, zr_wC, zi_wR, zn_wI, zn_wR, zn_wC, if_true, if_false, true_or, or_true, or_false, false_or, true_and, and_true, ↓reduceIte, reduceCtorEq, Nat.reduceEqDiff, Nat.reduceLT, Nat.reduceLeDiff, Nat.reduceAdd, Nat.reduceSub, Nat.reduceMul, Int32.reduceLT, Int32.reduceLE, Int32.reduceAdd, Int32.reduceMul, Int32.reduceSub, Int32.reduceToNatClampNeg, and_self, or_self, and_false, false_and, not_true_eq_false, not_false_eq_true, A.1, c_isNothing A]
  by_cases h1 : zi h a 0 = -9
  · simp +decide [h1]
  · by_cases h2 : zi h a 0 = l
    · have h1' : ¬ l = -9 := by rw [← h2]; exact h1
      simp +decide [h1', h2]
    · simp +decide [h1, h2]
def fcells (la cn l i n : Int32) : Int32 := if la = -9 then 1 else if la = l then (if n < 0 then 4 else if ¬ i < 0 ∧ ¬ cn < i ∧ ¬ cn - i < n then 0 else 3) else 2
theorem c_faultOfCells {d : Nat} {h : zH} {a c : Nat} (A : isSh h a c) {l i n : Int32} : zcall (zP zM) (d + 3) 39 [.inr (.inr (some a)), .inl l, .inl i, .inl n] h = some (some (.inl (fcells (zi h a 0) (zi h a 1) l i n)), h) := by
  rw [e_X7_faultOfCells]
  simp +decide only [u_X7_faultOfCells_0, u_X7_faultOfCells_1, u_X7_faultOfCells_2, u_X7_faultOfCells_5, u_X7_faultOfCells_7, u_X7_faultOfCells_9, u_X7_faultOfCells_12, u_X7_faultOfCells_14, u_X7_faultOfCells_15, u_X7_faultOfCells_16, u_X7_faultOfCells_19, u_X7_faultOfCells_20, u_X7_faultOfCells_21, u_X7_faultOfCells_22, u_X7_faultOfCells_23, u_X7_faultOfCells_24, u_X7_faultOfCells_27, u_X7_faultOfCells_30, u_X7_faultOfCells_31, u_X7_faultOfCells_34, u_X7_faultOfCells_35, zcl_i, zcl_r, zcl_l, zcl_0, Option.bind_some, Option.bind_none, Option.toList_some, Option.toList_none, List.cons_append, List.nil_append, zk_wI, zk_wR, zk_wC, zr_wI, zr_wC, zi_wR, zn_wI, zn_wR, zn_wC, if_true, if_false, true_or, or_true, or_false, false_or, true_and, and_true, ↓reduceIte, reduceCtorEq, Nat.reduceEqDiff, Nat.reduceLT, Nat.reduceLeDiff, Nat.reduceAdd, Nat.reduceSub, Nat.reduceMul, Int32.reduceLT, Int32.reduceLE, Int32.reduceAdd, Int32.reduceMul, Int32.reduceSub, Int32.reduceToNatClampNeg, and_self, or_self, and_false, false_and, not_true_eq_false, not_false_eq_true, A.1, c_faultOfLane A, c_hasCells A]
  unfold fcells
  by_cases h1 : zi h a 0 = -9
  · simp +decide [h1]
  · by_cases h2 : zi h a 0 = l
    · by_cases h3 : n < 0
      · simp +decide [h1, h2, h3]
        have h1' : ¬ l = -9 := by rw [← h2]; exact h1
        simp [h1']
      · have h1' : ¬ l = -9 := by rw [← h2]; exact h1
        by_cases h4 : i < 0 <;> by_cases h5 : zi h a 1 < i <;> by_cases h6 : zi h a 1 - i < n <;> simp +decide [h1', h2, h3, h4, h5, h6]
    · simp +decide [h1, h2]
theorem c_read {d : Nat} {h : zH} {a c : Nat} (A : isSh h a c) {n : Nat} (hn : n ≤ 60) (hc : zi h a 1 = nI n) {i : Nat} (hi : i < n) : zcall (zP zM) (d + 2) 40 [.inr (.inr (some a)), .inl (nI i)] h = some (some (.inl (zi h c i)), h) := by
  have q1 : ¬ nI i < 0 := nI_pos (by omega)
  have q2 : nI i < nI n := nI_lt hi (by omega)
  rw [e_X7_read]
  simp +decide only [u_X7_read_0, u_X7_read_1, u_X7_read_2, u_X7_read_5, u_X7_read_8, u_X7_read_9, u_X7_read_12, u_X7_read_13, u_X7_read_14, u_X7_read_17, u_X7_read_18, zcl_i, zcl_r, zcl_l, zcl_0, Option.bind_some, Option.bind_none, Option.toList_some, Option.toList_none, List.cons_append, List.nil_append, zk_wI, zk_wR, zk_wC, zr_wI, zr_wC, zi_wR, zn_wI, zn_wR, zn_wC, if_true, if_false, true_or, or_true, or_false, false_or, true_and, and_true, ↓reduceIte, reduceCtorEq, Nat.reduceEqDiff, Nat.reduceLT, Nat.reduceLeDiff, Nat.reduceAdd, Nat.reduceSub, Nat.reduceMul, Int32.reduceLT, Int32.reduceLE, Int32.reduceAdd, Int32.reduceMul, Int32.reduceSub, Int32.reduceToNatClampNeg, and_self, or_self, and_false, false_and, not_true_eq_false, not_false_eq_true, A.1, A.2.1, A.2.2, c_hasCell A, hc, q1, q2, zix_nI (show i < 60 by omega) (by decide)]
theorem zle3 {x : Int32} : (0 ≤ x ∧ x ≤ 3) = (0 ≤ x.toInt ∧ x.toInt < (4 : Nat)) := by
  rw [Int32.le_iff_toInt_le, Int32.le_iff_toInt_le]
  have h0 : (0 : Int32).toInt = 0 := by decide
  have h7 : (3 : Int32).toInt = 3 := by decide
  rw [h0, h7]
  apply propext
  constructor
  · rintro ⟨a, b⟩
    exact ⟨a, by omega⟩
  · rintro ⟨a, b⟩
    exact ⟨a, by omega⟩
theorem c_sheetNo {d : Nat} {h : zH} {k : Int32} (hk : ¬ (0 ≤ k.toInt ∧ k.toInt < (4 : Nat))) : zcall (zP zM) (d + 2) 80 [.inr (.inr (some 1)), .inl k] h = some (some (.inr (.inr none)), h) := by
  rw [e_X10_sheetAt]
  simp +decide only [u_X10_sheetAt_0, u_X10_sheetAt_1, u_X10_sheetAt_2, u_X10_sheetAt_3, u_X10_sheetAt_6, u_X10_sheetAt_9, u_X10_sheetAt_10, u_X10_sheetAt_13, u_X10_sheetAt_14, u_X10_sheetAt_15, u_X10_sheetAt_18, u_X10_sheetAt_19, zcl_i, zcl_r, zcl_l, zcl_0, Option.bind_some, Option.bind_none, Option.toList_some, Option.toList_none, List.cons_append, List.nil_append, zk_wI, zk_wR, zk_wC, zr_wI, zr_wC, zi_wR, zn_wI, zn_wR, zn_wC, if_true, if_false, true_or, or_true, or_false, false_or, true_and, and_true, ↓reduceIte, reduceCtorEq, Nat.reduceEqDiff, Nat.reduceLT, Nat.reduceLeDiff, Nat.reduceAdd, Nat.reduceSub, Nat.reduceMul, Int32.reduceLT, Int32.reduceLE, Int32.reduceAdd, Int32.reduceMul, Int32.reduceSub, Int32.reduceToNatClampNeg, and_self, or_self, and_false, false_and, not_true_eq_false, not_false_eq_true, c_isWithin, zle3, hk]
theorem zr8 {h : zH} (S : St h) {j : Nat} (hj : j < 4) : zr h 8 j = some (29 + 2 * j) := by
  rcases (show j = 0 ∨ j = 1 ∨ j = 2 ∨ j = 3 by omega) with rfl | rfl | rfl | rfl
  · exact R8_0 S
  · exact R8_1 S
  · exact R8_2 S
  · exact R8_3 S
theorem c_sheetAt {d : Nat} {h : zH} (S : St h) {j : Nat} (hj : j < 4) : zcall (zP zM) (d + 2) 80 [.inr (.inr (some 1)), .inl (nI j)] h = some (some (.inr (.inr (some (29 + 2 * j)))), h) := by
  have hr : 0 ≤ (nI j).toInt ∧ (nI j).toInt < (4 : Nat) := nI_rng hj (by decide)
  rw [e_X10_sheetAt]
  simp +decide only [u_X10_sheetAt_0, u_X10_sheetAt_1, u_X10_sheetAt_2, u_X10_sheetAt_3, u_X10_sheetAt_6, u_X10_sheetAt_9, u_X10_sheetAt_10, u_X10_sheetAt_13, u_X10_sheetAt_14, u_X10_sheetAt_15, u_X10_sheetAt_18, u_X10_sheetAt_19, zcl_i, zcl_r, zcl_l, zcl_0, Option.bind_some, Option.bind_none, Option.toList_some, Option.toList_none, List.cons_append, List.nil_append, zk_wI, zk_wR, zk_wC, zr_wI, zr_wC, zi_wR, zn_wI, zn_wR, zn_wC, if_true, if_false, true_or, or_true, or_false, false_or, true_and, and_true, ↓reduceIte, reduceCtorEq, Nat.reduceEqDiff, Nat.reduceLT, Nat.reduceLeDiff, Nat.reduceAdd, Nat.reduceSub, Nat.reduceMul, Int32.reduceLT, Int32.reduceLE, Int32.reduceAdd, Int32.reduceMul, Int32.reduceSub, Int32.reduceToNatClampNeg, and_self, or_self, and_false, false_and, not_true_eq_false, not_false_eq_true, c_isWithin, zle3, hr, K1 S, R1_4 S, K8 S, zix_nI hj (by decide), zr8 S hj]
theorem c_noSheetY {d : Nat} {h : zH} {j : Nat} (hj : j < 4) : zcall (zP zM) (d + 2) 128 [.inl (nI j)] h = some (some (.inl 0), h) := by
  rw [c_noSheet, if_pos (by rw [zle3]; exact nI_rng hj (by decide))]
theorem c_noSheetN {d : Nat} {h : zH} {k : Int32} (hk : ¬ (0 ≤ k.toInt ∧ k.toInt < (4 : Nat))) : zcall (zP zM) (d + 2) 128 [.inl k] h = some (some (.inl 1), h) := by
  rw [c_noSheet, if_neg (by rw [zle3]; exact hk)]
/-- a sheet becomes nothing -/
theorem IvS_lose {h : zH} (I : IvS h) {j : Nat} (hj : j < 4) : IvS (zwI (zwI (zwI h (29 + 2 * j) 0 (-9)) (29 + 2 * j) 1 0) 60 j (-1)) := by
  intro k hk
  by_cases e : k = j
  · subst e
    refine Or.inl ⟨by simp [zi_wI], ?_, ?_⟩
    · rw [zi_wI, if_neg (by omega), zi_wI, if_neg (by omega), zi_wI, if_pos ⟨rfl, rfl⟩]
    · rw [zi_wI, if_neg (by omega), zi_wI, if_pos ⟨rfl, rfl⟩]
  · have q : ∀ x y, ¬ (x = 29 + 2 * j) → ¬ (x = 60 ∧ y = j) → zi (zwI (zwI (zwI h (29 + 2 * j) 0 (-9)) (29 + 2 * j) 1 0) 60 j (-1)) x y = zi h x y := fun x y h1 h2 => by
      rw [zi_wI, if_neg h2, zi_wI, if_neg (fun z => h1 z.1), zi_wI, if_neg (fun z => h1 z.1)]
    rw [q 60 k (by omega) (by omega), q 61 k (by omega) (by omega), q (29 + 2 * k) 0 (by omega) (by omega), q (29 + 2 * k) 1 (by omega) (by omega)]
    rcases I k hk with h1 | ⟨c, l, h1, h2, h3, h4, h5, h6, h7⟩
    · exact Or.inl h1
    · refine Or.inr ⟨c, l, h1, h2, h3, h4, h5, h6, fun i hi => ?_⟩
      rw [q (30 + 2 * k) i (by omega) (by omega), q 62 (60 * k + i) (by omega) (by omega)]
      exact h7 i hi
theorem nI_m1 {c : Nat} (h : c < 2 ^ 31) : ¬ nI c = -1 := fun e => by
  have h7 : (nI c).toInt = (-1 : Int32).toInt := by rw [e]
  rw [nI_toInt h] at h7
  have h8 : (-1 : Int32).toInt = -1 := by decide
  rw [h8] at h7
  omega
theorem nI_m9 {c : Nat} (h : c < 2 ^ 31) : ¬ nI c = -9 := fun e => by
  have h7 : (nI c).toInt = (-9 : Int32).toInt := by rw [e]
  rw [nI_toInt h] at h7
  have h8 : (-9 : Int32).toInt = -9 := by decide
  rw [h8] at h7
  omega
theorem st_lose {h : zH} (I : Inv h) {k : Int32} : Stq 70 130 [.inl k] h := by
  have I0 := I
  obtain ⟨S, h1, n, T, K, h4, h5, h6⟩ := I
  rcases zrng k (N := 4) (by decide) with hf | ⟨j, hj, rfl⟩
  · refine ⟨.inl (-1), h, h, ?_, ?_, I0, by omega, by omega⟩
    · rw [e_X10_lose]
      simp +decide only [u_X10_lose_0, u_X10_lose_1, u_X10_lose_2, u_X10_lose_5, u_X10_lose_6, u_X10_lose_7, u_X10_lose_10, u_X10_lose_11, u_X10_lose_12, u_X10_lose_13, u_X10_lose_16, u_X10_lose_19, u_X10_lose_20, u_X10_lose_21, u_X10_lose_22, u_X10_lose_25, u_X10_lose_26, zcl_i, zcl_r, zcl_l, zcl_0, Option.bind_some, Option.bind_none, Option.toList_some, Option.toList_none, List.cons_append, List.nil_append, zk_wI, zk_wR, zk_wC, zr_wI, zr_wC, zi_wR, zn_wI, zn_wR, zn_wC, if_true, if_false, true_or, or_true, or_false, false_or, true_and, and_true, ↓reduceIte, reduceCtorEq, Nat.reduceEqDiff, Nat.reduceLT, Nat.reduceLeDiff, Nat.reduceAdd, Nat.reduceSub, Nat.reduceMul, Int32.reduceLT, Int32.reduceLE, Int32.reduceAdd, Int32.reduceMul, Int32.reduceSub, Int32.reduceToNatClampNeg, and_self, or_self, and_false, false_and, not_true_eq_false, not_false_eq_true, K1 S, c_sheetNo hf]
    · rw [e_X11_lose]
      simp +decide only [u_X11_lose_0, u_X11_lose_1, u_X11_lose_4, u_X11_lose_7, u_X11_lose_8, u_X11_lose_9, u_X11_lose_10, u_X11_lose_13, u_X11_lose_14, u_X11_lose_15, u_X11_lose_18, u_X11_lose_19, u_X11_lose_22, u_X11_lose_23, u_X11_lose_24, u_X11_lose_25, u_X11_lose_28, u_X11_lose_29, u_X11_lose_30, u_X11_lose_31, u_X11_lose_32, zcl_i, zcl_r, zcl_l, zcl_0, Option.bind_some, Option.bind_none, Option.toList_some, Option.toList_none, List.cons_append, List.nil_append, zk_wI, zk_wR, zk_wC, zr_wI, zr_wC, zi_wR, zn_wI, zn_wR, zn_wC, if_true, if_false, true_or, or_true, or_false, false_or, true_and, and_true, ↓reduceIte, reduceCtorEq, Nat.reduceEqDiff, Nat.reduceLT, Nat.reduceLeDiff, Nat.reduceAdd, Nat.reduceSub, Nat.reduceMul, Int32.reduceLT, Int32.reduceLE, Int32.reduceAdd, Int32.reduceMul, Int32.reduceSub, Int32.reduceToNatClampNeg, and_self, or_self, and_false, false_and, not_true_eq_false, not_false_eq_true, c_noSheetN hf]
  · have A := isSh_at S hj
    rcases h6 j hj with ⟨s1, s2, s3⟩ | ⟨c, l, s1, s2, s3, s4, s5, s6, s7⟩
    · refine ⟨.inl 0, h, h, ?_, ?_, I0, by omega, by omega⟩
      · rw [e_X10_lose]
        simp +decide only [u_X10_lose_0, u_X10_lose_1, u_X10_lose_2, u_X10_lose_5, u_X10_lose_6, u_X10_lose_7, u_X10_lose_10, u_X10_lose_11, u_X10_lose_12, u_X10_lose_13, u_X10_lose_16, u_X10_lose_19, u_X10_lose_20, u_X10_lose_21, u_X10_lose_22, u_X10_lose_25, u_X10_lose_26, zcl_i, zcl_r, zcl_l, zcl_0, Option.bind_some, Option.bind_none, Option.toList_some, Option.toList_none, List.cons_append, List.nil_append, zk_wI, zk_wR, zk_wC, zr_wI, zr_wC, zi_wR, zn_wI, zn_wR, zn_wC, if_true, if_false, true_or, or_true, or_false, false_or, true_and, and_true, ↓reduceIte, reduceCtorEq, Nat.reduceEqDiff, Nat.reduceLT, Nat.reduceLeDiff, Nat.reduceAdd, Nat.reduceSub, Nat.reduceMul, Int32.reduceLT, Int32.reduceLE, Int32.reduceAdd, Int32.reduceMul, Int32.reduceSub, Int32.reduceToNatClampNeg, and_self, or_self, and_false, false_and, not_true_eq_false, not_false_eq_true, K1 S, c_sheetAt S hj, A.1, c_isNothing A, s2]
      · rw [e_X11_lose]
        simp +decide only [u_X11_lose_0, u_X11_lose_1, u_X11_lose_4, u_X11_lose_7, u_X11_lose_8, u_X11_lose_9, u_X11_lose_10, u_X11_lose_13, u_X11_lose_14, u_X11_lose_15, u_X11_lose_18, u_X11_lose_19, u_X11_lose_22, u_X11_lose_23, u_X11_lose_24, u_X11_lose_25, u_X11_lose_28, u_X11_lose_29, u_X11_lose_30, u_X11_lose_31, u_X11_lose_32, zcl_i, zcl_r, zcl_l, zcl_0, Option.bind_some, Option.bind_none, Option.toList_some, Option.toList_none, List.cons_append, List.nil_append, zk_wI, zk_wR, zk_wC, zr_wI, zr_wC, zi_wR, zn_wI, zn_wR, zn_wC, if_true, if_false, true_or, or_true, or_false, false_or, true_and, and_true, ↓reduceIte, reduceCtorEq, Nat.reduceEqDiff, Nat.reduceLT, Nat.reduceLeDiff, Nat.reduceAdd, Nat.reduceSub, Nat.reduceMul, Int32.reduceLT, Int32.reduceLE, Int32.reduceAdd, Int32.reduceMul, Int32.reduceSub, Int32.reduceToNatClampNeg, and_self, or_self, and_false, false_and, not_true_eq_false, not_false_eq_true, c_noSheetY hj, K37 S, R37_38 S, K60 S, zix_nI hj (by decide), s1, zwI_same s1]
    · refine ⟨.inl 1, zwI (zwI h (29 + 2 * j) 0 (-9)) (29 + 2 * j) 1 0, zwI (zwI (zwI h (29 + 2 * j) 0 (-9)) (29 + 2 * j) 1 0) 60 j (-1), ?_, ?_, ⟨S, h1, n, IvT_w (IvT_w (IvT_w T (by omega) (by omega)) (by omega) (by omega)) (by omega) (by omega), IvK_w (IvK_w (IvK_w K (by omega)) (by omega)) (by omega), IvF_w (IvF_w (IvF_w h4 (by omega)) (by omega)) (by omega), IvR_w (IvR_w (IvR_w h5 (by omega)) (by omega)) (by omega), IvS_lose h6 hj⟩, Nat.le_add_right _ _, Nat.le_add_right _ _⟩
      · rw [e_X10_lose]
        simp +decide only [u_X10_lose_0, u_X10_lose_1, u_X10_lose_2, u_X10_lose_5, u_X10_lose_6, u_X10_lose_7, u_X10_lose_10, u_X10_lose_11, u_X10_lose_12, u_X10_lose_13, u_X10_lose_16, u_X10_lose_19, u_X10_lose_20, u_X10_lose_21, u_X10_lose_22, u_X10_lose_25, u_X10_lose_26, zcl_i, zcl_r, zcl_l, zcl_0, Option.bind_some, Option.bind_none, Option.toList_some, Option.toList_none, List.cons_append, List.nil_append, zk_wI, zk_wR, zk_wC, zr_wI, zr_wC, zi_wR, zn_wI, zn_wR, zn_wC, if_true, if_false, true_or, or_true, or_false, false_or, true_and, and_true, ↓reduceIte, reduceCtorEq, Nat.reduceEqDiff, Nat.reduceLT, Nat.reduceLeDiff, Nat.reduceAdd, Nat.reduceSub, Nat.reduceMul, Int32.reduceLT, Int32.reduceLE, Int32.reduceAdd, Int32.reduceMul, Int32.reduceSub, Int32.reduceToNatClampNeg, and_self, or_self, and_false, false_and, not_true_eq_false, not_false_eq_true, K1 S, c_sheetAt S hj, A.1, c_isNothing A, s5, nI_m9 (show l < 2 ^ 31 by omega), e_X7_clear, u_X7_clear_0, u_X7_clear_1, u_X7_clear_3, u_X7_clear_6, u_X7_clear_7, u_X7_clear_8, u_X7_clear_11]
      · have e : zi (zwI (zwI h (29 + 2 * j) 0 (-9)) (29 + 2 * j) 1 0) 60 j = nI c := by
          rw [zi_wI, if_neg (by omega), zi_wI, if_neg (by omega)]
          exact s3
        have q1 : ¬ nI c < 0 := nI_pos (by omega)
        rw [e_X11_lose]
        simp +decide only [u_X11_lose_0, u_X11_lose_1, u_X11_lose_4, u_X11_lose_7, u_X11_lose_8, u_X11_lose_9, u_X11_lose_10, u_X11_lose_13, u_X11_lose_14, u_X11_lose_15, u_X11_lose_18, u_X11_lose_19, u_X11_lose_22, u_X11_lose_23, u_X11_lose_24, u_X11_lose_25, u_X11_lose_28, u_X11_lose_29, u_X11_lose_30, u_X11_lose_31, u_X11_lose_32, zcl_i, zcl_r, zcl_l, zcl_0, Option.bind_some, Option.bind_none, Option.toList_some, Option.toList_none, List.cons_append, List.nil_append, zk_wI, zk_wR, zk_wC, zr_wI, zr_wC, zi_wR, zn_wI, zn_wR, zn_wC, if_true, if_false, true_or, or_true, or_false, false_or, true_and, and_true, ↓reduceIte, reduceCtorEq, Nat.reduceEqDiff, Nat.reduceLT, Nat.reduceLeDiff, Nat.reduceAdd, Nat.reduceSub, Nat.reduceMul, Int32.reduceLT, Int32.reduceLE, Int32.reduceAdd, Int32.reduceMul, Int32.reduceSub, Int32.reduceToNatClampNeg, and_self, or_self, and_false, false_and, not_true_eq_false, not_false_eq_true, c_noSheetY hj, K37 S, R37_38 S, K60 S, zix_nI hj (by decide), e, q1]
